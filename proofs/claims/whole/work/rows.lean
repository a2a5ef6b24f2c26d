section
-- ===== PART A: goes FIRST, ahead of the names: the tables' words, and 'selects' of the private methods out of them =====
/-- a private method of a class that the tables say can be made, by its rows of tables_1 -/
def lw_okq (q : MethodName × Nat) : Prop := (q.1.cls ≠ "java/lang/invoke/MethodHandle" ∧ q.1.cls ≠ "java/lang/invoke/VarHandle") ∧ Cond.instantiable q.1.cls q.2 ∈ tables_1 ∧ Cond.privateMethod q.1 ∈ tables_1 ∧ Cond.instanceMethod q.1 ∈ tables_1
theorem lw_p0 : lw_okq (⟨"StrategyDesk$Game", "judgeAll", "()V"⟩, 4) := ⟨⟨by decide +kernel, by decide +kernel⟩, List.mem_of_getElem? (i := 27) (by decide +kernel), List.mem_of_getElem? (i := 33) (by decide +kernel), List.mem_of_getElem? (i := 34) (by decide +kernel)⟩
theorem lw_p1 : lw_okq (⟨"StrategyDesk$Game", "judgeDepth", "(I)V"⟩, 4) := ⟨⟨by decide +kernel, by decide +kernel⟩, List.mem_of_getElem? (i := 27) (by decide +kernel), List.mem_of_getElem? (i := 37) (by decide +kernel), List.mem_of_getElem? (i := 38) (by decide +kernel)⟩
theorem lw_p2 : lw_okq (⟨"StrategyDesk", "areSets", "(II)Z"⟩, 10) := ⟨⟨by decide +kernel, by decide +kernel⟩, List.mem_of_getElem? (i := 7) (by decide +kernel), List.mem_of_getElem? (i := 104) (by decide +kernel), List.mem_of_getElem? (i := 105) (by decide +kernel)⟩
theorem lw_p3 : lw_okq (⟨"StrategyDesk", "isClause", "(I)Z"⟩, 10) := ⟨⟨by decide +kernel, by decide +kernel⟩, List.mem_of_getElem? (i := 7) (by decide +kernel), List.mem_of_getElem? (i := 116) (by decide +kernel), List.mem_of_getElem? (i := 117) (by decide +kernel)⟩
theorem lw_p4 : lw_okq (⟨"StrategyDesk", "isVariable", "(I)Z"⟩, 10) := ⟨⟨by decide +kernel, by decide +kernel⟩, List.mem_of_getElem? (i := 7) (by decide +kernel), List.mem_of_getElem? (i := 153) (by decide +kernel), List.mem_of_getElem? (i := 154) (by decide +kernel)⟩
theorem lw_p5 : lw_okq (⟨"StrategyDesk", "valuesWithBest", "(II)I"⟩, 10) := ⟨⟨by decide +kernel, by decide +kernel⟩, List.mem_of_getElem? (i := 7) (by decide +kernel), List.mem_of_getElem? (i := 157) (by decide +kernel), List.mem_of_getElem? (i := 158) (by decide +kernel)⟩
theorem lw_p6 : lw_okq (⟨"StrategyDesk", "leavesWinner", "(III)Z"⟩, 10) := ⟨⟨by decide +kernel, by decide +kernel⟩, List.mem_of_getElem? (i := 7) (by decide +kernel), List.mem_of_getElem? (i := 169) (by decide +kernel), List.mem_of_getElem? (i := 170) (by decide +kernel)⟩
theorem lw_p7 : lw_okq (⟨"StrategyDesk", "isEves", "(I)Z"⟩, 10) := ⟨⟨by decide +kernel, by decide +kernel⟩, List.mem_of_getElem? (i := 7) (by decide +kernel), List.mem_of_getElem? (i := 189) (by decide +kernel), List.mem_of_getElem? (i := 190) (by decide +kernel)⟩
theorem lw_p8 : lw_okq (⟨"StrategyDesk", "sumsBefore", "(I)I"⟩, 10) := ⟨⟨by decide +kernel, by decide +kernel⟩, List.mem_of_getElem? (i := 7) (by decide +kernel), List.mem_of_getElem? (i := 197) (by decide +kernel), List.mem_of_getElem? (i := 198) (by decide +kernel)⟩
theorem lw_p9 : lw_okq (⟨"StrategyDesk", "valuesWithClaims", "(I)I"⟩, 10) := ⟨⟨by decide +kernel, by decide +kernel⟩, List.mem_of_getElem? (i := 7) (by decide +kernel), List.mem_of_getElem? (i := 207) (by decide +kernel), List.mem_of_getElem? (i := 208) (by decide +kernel)⟩
theorem lw_p10 : lw_okq (⟨"StrategyDesk", "adamValues", "(I)I"⟩, 10) := ⟨⟨by decide +kernel, by decide +kernel⟩, List.mem_of_getElem? (i := 7) (by decide +kernel), List.mem_of_getElem? (i := 211) (by decide +kernel), List.mem_of_getElem? (i := 212) (by decide +kernel)⟩
theorem lw_p11 : lw_okq (⟨"StrategyDesk", "sumBefore", "(II)I"⟩, 10) := ⟨⟨by decide +kernel, by decide +kernel⟩, List.mem_of_getElem? (i := 7) (by decide +kernel), List.mem_of_getElem? (i := 215) (by decide +kernel), List.mem_of_getElem? (i := 216) (by decide +kernel)⟩
theorem lw_p12 : lw_okq (⟨"StrategyDesk", "claimValues", "(II)V"⟩, 10) := ⟨⟨by decide +kernel, by decide +kernel⟩, List.mem_of_getElem? (i := 7) (by decide +kernel), List.mem_of_getElem? (i := 223) (by decide +kernel), List.mem_of_getElem? (i := 224) (by decide +kernel)⟩
theorem lw_p13 : lw_okq (⟨"StrategyDeskModel", "strange", "(I)Z"⟩, 14) := ⟨⟨by decide +kernel, by decide +kernel⟩, List.mem_of_getElem? (i := 235) (by decide +kernel), List.mem_of_getElem? (i := 296) (by decide +kernel), List.mem_of_getElem? (i := 297) (by decide +kernel)⟩
theorem lw_p14 : lw_okq (⟨"StrategyDeskModel", "noClause", "(I)Z"⟩, 14) := ⟨⟨by decide +kernel, by decide +kernel⟩, List.mem_of_getElem? (i := 235) (by decide +kernel), List.mem_of_getElem? (i := 304) (by decide +kernel), List.mem_of_getElem? (i := 305) (by decide +kernel)⟩
theorem lw_p15 : lw_okq (⟨"StrategyDeskModel", "look", "()V"⟩, 14) := ⟨⟨by decide +kernel, by decide +kernel⟩, List.mem_of_getElem? (i := 235) (by decide +kernel), List.mem_of_getElem? (i := 328) (by decide +kernel), List.mem_of_getElem? (i := 329) (by decide +kernel)⟩
def lw_privs_1 : List (MethodName × Nat) := [(⟨"StrategyDesk$Game", "judgeAll", "()V"⟩, 4), (⟨"StrategyDesk$Game", "judgeDepth", "(I)V"⟩, 4), (⟨"StrategyDesk", "areSets", "(II)Z"⟩, 10), (⟨"StrategyDesk", "isClause", "(I)Z"⟩, 10), (⟨"StrategyDesk", "isVariable", "(I)Z"⟩, 10), (⟨"StrategyDesk", "valuesWithBest", "(II)I"⟩, 10), (⟨"StrategyDesk", "leavesWinner", "(III)Z"⟩, 10), (⟨"StrategyDesk", "isEves", "(I)Z"⟩, 10), (⟨"StrategyDesk", "sumsBefore", "(I)I"⟩, 10), (⟨"StrategyDesk", "valuesWithClaims", "(I)I"⟩, 10), (⟨"StrategyDesk", "adamValues", "(I)I"⟩, 10), (⟨"StrategyDesk", "sumBefore", "(II)I"⟩, 10), (⟨"StrategyDesk", "claimValues", "(II)V"⟩, 10), (⟨"StrategyDeskModel", "strange", "(I)Z"⟩, 14), (⟨"StrategyDeskModel", "noClause", "(I)Z"⟩, 14), (⟨"StrategyDeskModel", "look", "()V"⟩, 14)]
theorem lw_r1 : ∀ q ∈ lw_privs_1, lw_okq q := List.forall_mem_cons.mpr ⟨lw_p0, List.forall_mem_cons.mpr ⟨lw_p1, List.forall_mem_cons.mpr ⟨lw_p2, List.forall_mem_cons.mpr ⟨lw_p3, List.forall_mem_cons.mpr ⟨lw_p4, List.forall_mem_cons.mpr ⟨lw_p5, List.forall_mem_cons.mpr ⟨lw_p6, List.forall_mem_cons.mpr ⟨lw_p7, List.forall_mem_cons.mpr ⟨lw_p8, List.forall_mem_cons.mpr ⟨lw_p9, List.forall_mem_cons.mpr ⟨lw_p10, List.forall_mem_cons.mpr ⟨lw_p11, List.forall_mem_cons.mpr ⟨lw_p12, List.forall_mem_cons.mpr ⟨lw_p13, List.forall_mem_cons.mpr ⟨lw_p14, List.forall_mem_cons.mpr ⟨lw_p15, fun _ h => absurd h List.not_mem_nil⟩⟩⟩⟩⟩⟩⟩⟩⟩⟩⟩⟩⟩⟩⟩⟩
theorem lw_p16 : lw_okq (⟨"StrategyDeskModel", "fill", "()V"⟩, 14) := ⟨⟨by decide +kernel, by decide +kernel⟩, List.mem_of_getElem? (i := 235) (by decide +kernel), List.mem_of_getElem? (i := 332) (by decide +kernel), List.mem_of_getElem? (i := 333) (by decide +kernel)⟩
theorem lw_p17 : lw_okq (⟨"StrategyDeskModel", "onesAt", "(I)I"⟩, 14) := ⟨⟨by decide +kernel, by decide +kernel⟩, List.mem_of_getElem? (i := 235) (by decide +kernel), List.mem_of_getElem? (i := 336) (by decide +kernel), List.mem_of_getElem? (i := 337) (by decide +kernel)⟩
theorem lw_p18 : lw_okq (⟨"StrategyDeskModel", "allHold", "(I)Z"⟩, 14) := ⟨⟨by decide +kernel, by decide +kernel⟩, List.mem_of_getElem? (i := 235) (by decide +kernel), List.mem_of_getElem? (i := 340) (by decide +kernel), List.mem_of_getElem? (i := 341) (by decide +kernel)⟩
theorem lw_p19 : lw_okq (⟨"StrategyDeskModel", "isAdams", "(I)Z"⟩, 14) := ⟨⟨by decide +kernel, by decide +kernel⟩, List.mem_of_getElem? (i := 235) (by decide +kernel), List.mem_of_getElem? (i := 347) (by decide +kernel), List.mem_of_getElem? (i := 348) (by decide +kernel)⟩
theorem lw_p20 : lw_okq (⟨"StrategyDeskModel", "move", "(II)I"⟩, 14) := ⟨⟨by decide +kernel, by decide +kernel⟩, List.mem_of_getElem? (i := 235) (by decide +kernel), List.mem_of_getElem? (i := 355) (by decide +kernel), List.mem_of_getElem? (i := 356) (by decide +kernel)⟩
theorem lw_p21 : lw_okq (⟨"StrategyDeskModel", "led", "(IZI)I"⟩, 14) := ⟨⟨by decide +kernel, by decide +kernel⟩, List.mem_of_getElem? (i := 235) (by decide +kernel), List.mem_of_getElem? (i := 363) (by decide +kernel), List.mem_of_getElem? (i := 364) (by decide +kernel)⟩
theorem lw_p22 : lw_okq (⟨"StrategyDeskModel", "noEves", "(I)Z"⟩, 14) := ⟨⟨by decide +kernel, by decide +kernel⟩, List.mem_of_getElem? (i := 235) (by decide +kernel), List.mem_of_getElem? (i := 387) (by decide +kernel), List.mem_of_getElem? (i := 388) (by decide +kernel)⟩
theorem lw_p23 : lw_okq (⟨"StrategyDeskModel", "before", "(I)I"⟩, 14) := ⟨⟨by decide +kernel, by decide +kernel⟩, List.mem_of_getElem? (i := 235) (by decide +kernel), List.mem_of_getElem? (i := 395) (by decide +kernel), List.mem_of_getElem? (i := 396) (by decide +kernel)⟩
theorem lw_p24 : lw_okq (⟨"StrategyDeskModel", "reached", "(I)I"⟩, 14) := ⟨⟨by decide +kernel, by decide +kernel⟩, List.mem_of_getElem? (i := 235) (by decide +kernel), List.mem_of_getElem? (i := 403) (by decide +kernel), List.mem_of_getElem? (i := 404) (by decide +kernel)⟩
def lw_privs_2 : List (MethodName × Nat) := [(⟨"StrategyDeskModel", "fill", "()V"⟩, 14), (⟨"StrategyDeskModel", "onesAt", "(I)I"⟩, 14), (⟨"StrategyDeskModel", "allHold", "(I)Z"⟩, 14), (⟨"StrategyDeskModel", "isAdams", "(I)Z"⟩, 14), (⟨"StrategyDeskModel", "move", "(II)I"⟩, 14), (⟨"StrategyDeskModel", "led", "(IZI)I"⟩, 14), (⟨"StrategyDeskModel", "noEves", "(I)Z"⟩, 14), (⟨"StrategyDeskModel", "before", "(I)I"⟩, 14), (⟨"StrategyDeskModel", "reached", "(I)I"⟩, 14)]
theorem lw_r2 : ∀ q ∈ lw_privs_2, lw_okq q := List.forall_mem_cons.mpr ⟨lw_p16, List.forall_mem_cons.mpr ⟨lw_p17, List.forall_mem_cons.mpr ⟨lw_p18, List.forall_mem_cons.mpr ⟨lw_p19, List.forall_mem_cons.mpr ⟨lw_p20, List.forall_mem_cons.mpr ⟨lw_p21, List.forall_mem_cons.mpr ⟨lw_p22, List.forall_mem_cons.mpr ⟨lw_p23, List.forall_mem_cons.mpr ⟨lw_p24, fun _ h => absurd h List.not_mem_nil⟩⟩⟩⟩⟩⟩⟩⟩⟩
def lw_privs : List (MethodName × Nat) := lw_privs_1 ++ (lw_privs_2)
def lw_tbl : List Cond := k2_sels lw_privs ++ tables_1
theorem lw_privs_ok : ∀ q ∈ lw_privs, lw_okq q := by
  show ∀ q ∈ lw_privs_1 ++ (lw_privs_2), lw_okq q
  exact List.forall_mem_append.mpr ⟨lw_r1, lw_r2⟩
def RX0 : String := "StrategyDesk$Game"
def TX0 : u_T := fun k => match k with
  | 0 => ("StrategyDesk$Game", "size", "I", true)
  | 1 => ("StrategyDesk$Game", "adamSet", "I", true)
  | 2 => ("StrategyDesk$Game", "broken", "[I", true)
  | _ => ("StrategyDesk$Game", "eveWins", "[Z", true)
def tyX0 : Nat → FieldType := fun k => match k with
  | 0 => .int
  | 1 => .int
  | 2 => .array .int
  | _ => .array .boolean
theorem nmX0 : ∀ a, a < 4 → ∀ b, b < 4 → a ≠ b → (TX0 a).2.1 ≠ (TX0 b).2.1 := by decide +kernel
theorem tyX0_ok : ∀ k, k < 4 → parseFieldDescriptor (TX0 k).2.2.1 = some (tyX0 k) := by decide +kernel
def RX1 : String := "StrategyDesk"
def TX1 : u_T := fun k => match k with
  | 0 => ("StrategyDesk", "size", "I", true)
  | 1 => ("StrategyDesk", "adamSet", "I", true)
  | 2 => ("StrategyDesk", "eveSet", "I", true)
  | 3 => ("StrategyDesk", "game", "LStrategyDesk$Game;", true)
  | 4 => ("StrategyDesk", "yesSets", "[I", true)
  | 5 => ("StrategyDesk", "noSets", "[I", true)
  | 6 => ("StrategyDesk", "clauseCount", "I", false)
  | 7 => ("StrategyDesk", "playDepth", "I", false)
  | 8 => ("StrategyDesk", "playValues", "I", false)
  | _ => ("StrategyDesk", "tables", "[I", true)
def tyX1 : Nat → FieldType := fun k => match k with
  | 0 => .int
  | 1 => .int
  | 2 => .int
  | 3 => .object "StrategyDesk$Game"
  | 4 => .array .int
  | 5 => .array .int
  | 6 => .int
  | 7 => .int
  | 8 => .int
  | _ => .array .int
theorem nmX1 : ∀ a, a < 10 → ∀ b, b < 10 → a ≠ b → (TX1 a).2.1 ≠ (TX1 b).2.1 := by decide +kernel
theorem tyX1_ok : ∀ k, k < 10 → parseFieldDescriptor (TX1 k).2.2.1 = some (tyX1 k) := by decide +kernel
def RX2 : String := "StrategyDeskModel"
def TX2 : u_T := fun k => match k with
  | 0 => ("StrategyDeskModel", "n", "I", true)
  | 1 => ("StrategyDeskModel", "adam", "I", true)
  | 2 => ("StrategyDeskModel", "many", "I", false)
  | 3 => ("StrategyDeskModel", "yes", "[I", true)
  | 4 => ("StrategyDeskModel", "no", "[I", true)
  | 5 => ("StrategyDeskModel", "known", "Z", false)
  | 6 => ("StrategyDeskModel", "skip", "I", false)
  | 7 => ("StrategyDeskModel", "more", "Z", false)
  | 8 => ("StrategyDeskModel", "moreYes", "I", false)
  | 9 => ("StrategyDeskModel", "moreNo", "I", false)
  | 10 => ("StrategyDeskModel", "win", "[Z", true)
  | 11 => ("StrategyDeskModel", "position", "I", false)
  | 12 => ("StrategyDeskModel", "set", "I", false)
  | _ => ("StrategyDeskModel", "tables", "[I", true)
def tyX2 : Nat → FieldType := fun k => match k with
  | 0 => .int
  | 1 => .int
  | 2 => .int
  | 3 => .array .int
  | 4 => .array .int
  | 5 => .boolean
  | 6 => .int
  | 7 => .boolean
  | 8 => .int
  | 9 => .int
  | 10 => .array .boolean
  | 11 => .int
  | 12 => .int
  | _ => .array .int
theorem nmX2 : ∀ a, a < 14 → ∀ b, b < 14 → a ≠ b → (TX2 a).2.1 ≠ (TX2 b).2.1 := by decide +kernel
theorem tyX2_ok : ∀ k, k < 14 → parseFieldDescriptor (TX2 k).2.2.1 = some (tyX2 k) := by decide +kernel
def RJ6 : String := "java/lang/Integer"
def RJ9 : String := "java/lang/Math"
def RL : String := "StrategyDeskLaw"
abbrev cX1_init : ByteArray := prog_1_method_1_code
def yX1_init : MethodName := ⟨RX1, "<init>", "(II)V"⟩
abbrev kX1_init : Cond := .code yX1_init cX1_init 4 none
abbrev cJ9_min : ByteArray := prog_6_method_69_code
def yJ9_min : MethodName := ⟨RJ9, "min", "(II)I"⟩
abbrev kJ9_min : Cond := .code yJ9_min cJ9_min 2 (some .int)
abbrev cJ9_max : ByteArray := prog_6_method_65_code
def yJ9_max : MethodName := ⟨RJ9, "max", "(II)I"⟩
abbrev kJ9_max : Cond := .code yJ9_max cJ9_max 2 (some .int)
abbrev cX1_firstOf : ByteArray := prog_1_method_33_code
def yX1_firstOf : MethodName := ⟨RX1, "firstOf", "(II)I"⟩
abbrev kX1_firstOf : Cond := .code yX1_firstOf cX1_firstOf 5 (some .int)
abbrev cX1_bit : ByteArray := prog_1_method_32_code
def yX1_bit : MethodName := ⟨RX1, "bit", "(II)I"⟩
abbrev kX1_bit : Cond := .code yX1_bit cX1_bit 2 (some .int)
abbrev cX0_init : ByteArray := prog_2_method_1_code
def yX0_init : MethodName := ⟨RX0, "<init>", "(II)V"⟩
abbrev kX0_init : Cond := .code yX0_init cX0_init 3 none
abbrev cX0_judgeAll : ByteArray := prog_2_method_6_code
def yX0_judgeAll : MethodName := ⟨RX0, "judgeAll", "()V"⟩
abbrev kX0_judgeAll : Cond := .code yX0_judgeAll cX0_judgeAll 2 none
abbrev cX0_judgeDepth : ByteArray := prog_2_method_7_code
def yX0_judgeDepth : MethodName := ⟨RX0, "judgeDepth", "(I)V"⟩
abbrev kX0_judgeDepth : Cond := .code yX0_judgeDepth cX0_judgeDepth 7 none
abbrev cX0_eveWinsAt : ByteArray := prog_2_method_2_code
def yX0_eveWinsAt : MethodName := ⟨RX0, "eveWinsAt", "(II)Z"⟩
abbrev kX0_eveWinsAt : Cond := .code yX0_eveWinsAt cX0_eveWinsAt 3 (some .boolean)
abbrev cX1_variables : ByteArray := prog_1_method_2_code
def yX1_variables : MethodName := ⟨RX1, "variables", "()I"⟩
abbrev kX1_variables : Cond := .code yX1_variables cX1_variables 1 (some .int)
abbrev cX1_adams : ByteArray := prog_1_method_3_code
def yX1_adams : MethodName := ⟨RX1, "adams", "()I"⟩
abbrev kX1_adams : Cond := .code yX1_adams cX1_adams 1 (some .int)
abbrev cX1_add : ByteArray := prog_1_method_4_code
def yX1_add : MethodName := ⟨RX1, "add", "(II)I"⟩
abbrev kX1_add : Cond := .code yX1_add cX1_add 3 (some .int)
abbrev cX1_areSets : ByteArray := prog_1_method_24_code
def yX1_areSets : MethodName := ⟨RX1, "areSets", "(II)Z"⟩
abbrev kX1_areSets : Cond := .code yX1_areSets cX1_areSets 3 (some .boolean)
abbrev cX0_change : ByteArray := prog_2_method_5_code
def yX0_change : MethodName := ⟨RX0, "change", "(III)V"⟩
abbrev kX0_change : Cond := .code yX0_change cX0_change 5 none
abbrev cX1_drop : ByteArray := prog_1_method_5_code
def yX1_drop : MethodName := ⟨RX1, "drop", "(I)Z"⟩
abbrev kX1_drop : Cond := .code yX1_drop cX1_drop 3 (some .boolean)
abbrev cX1_isClause : ByteArray := prog_1_method_23_code
def yX1_isClause : MethodName := ⟨RX1, "isClause", "(I)Z"⟩
abbrev kX1_isClause : Cond := .code yX1_isClause cX1_isClause 2 (some .boolean)
abbrev cX1_clauses : ByteArray := prog_1_method_6_code
def yX1_clauses : MethodName := ⟨RX1, "clauses", "()I"⟩
abbrev kX1_clauses : Cond := .code yX1_clauses cX1_clauses 1 (some .int)
abbrev cX1_play : ByteArray := prog_1_method_7_code
def yX1_play : MethodName := ⟨RX1, "play", "(I)I"⟩
abbrev kX1_play : Cond := .code yX1_play cX1_play 2 (some .int)
abbrev cX1_undo : ByteArray := prog_1_method_8_code
def yX1_undo : MethodName := ⟨RX1, "undo", "()Z"⟩
abbrev kX1_undo : Cond := .code yX1_undo cX1_undo 1 (some .boolean)
abbrev cX1_played : ByteArray := prog_1_method_9_code
def yX1_played : MethodName := ⟨RX1, "played", "()I"⟩
abbrev kX1_played : Cond := .code yX1_played cX1_played 1 (some .int)
abbrev cX1_wins : ByteArray := prog_1_method_10_code
def yX1_wins : MethodName := ⟨RX1, "wins", "()Z"⟩
abbrev kX1_wins : Cond := .code yX1_wins cX1_wins 1 (some .boolean)
abbrev cX1_best : ByteArray := prog_1_method_11_code
def yX1_best : MethodName := ⟨RX1, "best", "()I"⟩
abbrev kX1_best : Cond := .code yX1_best cX1_best 1 (some .int)
abbrev cX0_bestMove : ByteArray := prog_2_method_3_code
def yX0_bestMove : MethodName := ⟨RX0, "bestMove", "(II)I"⟩
abbrev kX0_bestMove : Cond := .code yX0_bestMove cX0_bestMove 6 (some .int)
abbrev cX1_reply : ByteArray := prog_1_method_12_code
def yX1_reply : MethodName := ⟨RX1, "reply", "(II)I"⟩
abbrev kX1_reply : Cond := .code yX1_reply cX1_reply 3 (some .int)
abbrev cX1_isVariable : ByteArray := prog_1_method_21_code
def yX1_isVariable : MethodName := ⟨RX1, "isVariable", "(I)Z"⟩
abbrev kX1_isVariable : Cond := .code yX1_isVariable cX1_isVariable 2 (some .boolean)
abbrev cX1_valuesWithBest : ByteArray := prog_1_method_26_code
def yX1_valuesWithBest : MethodName := ⟨RX1, "valuesWithBest", "(II)I"⟩
abbrev kX1_valuesWithBest : Cond := .code yX1_valuesWithBest cX1_valuesWithBest 6 (some .int)
abbrev cX1_answer : ByteArray := prog_1_method_13_code
def yX1_answer : MethodName := ⟨RX1, "answer", "(II)I"⟩
abbrev kX1_answer : Cond := .code yX1_answer cX1_answer 3 (some .int)
abbrev cX1_idle : ByteArray := prog_1_method_14_code
def yX1_idle : MethodName := ⟨RX1, "idle", "(I)Z"⟩
abbrev kX1_idle : Cond := .code yX1_idle cX1_idle 2 (some .boolean)
abbrev cX1_leavesWinner : ByteArray := prog_1_method_25_code
def yX1_leavesWinner : MethodName := ⟨RX1, "leavesWinner", "(III)Z"⟩
abbrev kX1_leavesWinner : Cond := .code yX1_leavesWinner cX1_leavesWinner 6 (some .boolean)
abbrev cX1_harmless : ByteArray := prog_1_method_15_code
def yX1_harmless : MethodName := ⟨RX1, "harmless", "(II)Z"⟩
abbrev kX1_harmless : Cond := .code yX1_harmless cX1_harmless 3 (some .boolean)
abbrev cX1_models : ByteArray := prog_1_method_16_code
def yX1_models : MethodName := ⟨RX1, "models", "()I"⟩
abbrev kX1_models : Cond := .code yX1_models cX1_models 1 (some .int)
abbrev cX0_countModels : ByteArray := prog_2_method_4_code
def yX0_countModels : MethodName := ⟨RX0, "countModels", "()I"⟩
abbrev kX0_countModels : Cond := .code yX0_countModels cX0_countModels 3 (some .int)
abbrev cX1_claim : ByteArray := prog_1_method_17_code
def yX1_claim : MethodName := ⟨RX1, "claim", "(II)Z"⟩
abbrev kX1_claim : Cond := .code yX1_claim cX1_claim 3 (some .boolean)
abbrev cX1_isEves : ByteArray := prog_1_method_22_code
def yX1_isEves : MethodName := ⟨RX1, "isEves", "(I)Z"⟩
abbrev kX1_isEves : Cond := .code yX1_isEves cX1_isEves 2 (some .boolean)
abbrev cX1_gap : ByteArray := prog_1_method_18_code
def yX1_gap : MethodName := ⟨RX1, "gap", "()I"⟩
abbrev kX1_gap : Cond := .code yX1_gap cX1_gap 3 (some .int)
abbrev cX1_sumsBefore : ByteArray := prog_1_method_30_code
def yX1_sumsBefore : MethodName := ⟨RX1, "sumsBefore", "(I)I"⟩
abbrev kX1_sumsBefore : Cond := .code yX1_sumsBefore cX1_sumsBefore 2 (some .int)
abbrev cJ6_bitCount : ByteArray := prog_5_method_49_code
def yJ6_bitCount : MethodName := ⟨RJ6, "bitCount", "(I)I"⟩
abbrev kJ6_bitCount : Cond := .code yJ6_bitCount cJ6_bitCount 1 (some .int)
abbrev cX1_valuesWithClaims : ByteArray := prog_1_method_27_code
def yX1_valuesWithClaims : MethodName := ⟨RX1, "valuesWithClaims", "(I)I"⟩
abbrev kX1_valuesWithClaims : Cond := .code yX1_valuesWithClaims cX1_valuesWithClaims 4 (some .int)
abbrev cX1_adamValues : ByteArray := prog_1_method_29_code
def yX1_adamValues : MethodName := ⟨RX1, "adamValues", "(I)I"⟩
abbrev kX1_adamValues : Cond := .code yX1_adamValues cX1_adamValues 5 (some .int)
abbrev cX1_sumBefore : ByteArray := prog_1_method_31_code
def yX1_sumBefore : MethodName := ⟨RX1, "sumBefore", "(II)I"⟩
abbrev kX1_sumBefore : Cond := .code yX1_sumBefore cX1_sumBefore 3 (some .int)
abbrev cX1_learn : ByteArray := prog_1_method_19_code
def yX1_learn : MethodName := ⟨RX1, "learn", "()I"⟩
abbrev kX1_learn : Cond := .code yX1_learn cX1_learn 3 (some .int)
abbrev cX1_claimValues : ByteArray := prog_1_method_28_code
def yX1_claimValues : MethodName := ⟨RX1, "claimValues", "(II)V"⟩
abbrev kX1_claimValues : Cond := .code yX1_claimValues cX1_claimValues 4 none
abbrev cX1_claimed : ByteArray := prog_1_method_20_code
def yX1_claimed : MethodName := ⟨RX1, "claimed", "(II)I"⟩
abbrev kX1_claimed : Cond := .code yX1_claimed cX1_claimed 3 (some .int)
abbrev cL_cell : ByteArray := method_2_code
def yL_cell : MethodName := ⟨RL, "cell", "([II)I"⟩
abbrev kL_cell : Cond := .code yL_cell cL_cell 2 (some .int)
abbrev cX2_init : ByteArray := prog_4_method_1_code
def yX2_init : MethodName := ⟨RX2, "<init>", "(II)V"⟩
abbrev kX2_init : Cond := .code yX2_init cX2_init 6 none
abbrev cX2_variables : ByteArray := prog_4_method_2_code
def yX2_variables : MethodName := ⟨RX2, "variables", "()I"⟩
abbrev kX2_variables : Cond := .code yX2_variables cX2_variables 1 (some .int)
abbrev cX2_adams : ByteArray := prog_4_method_3_code
def yX2_adams : MethodName := ⟨RX2, "adams", "()I"⟩
abbrev kX2_adams : Cond := .code yX2_adams cX2_adams 1 (some .int)
abbrev cX2_add : ByteArray := prog_4_method_5_code
def yX2_add : MethodName := ⟨RX2, "add", "(II)I"⟩
abbrev kX2_add : Cond := .code yX2_add cX2_add 3 (some .int)
abbrev cX2_strange : ByteArray := prog_4_method_4_code
def yX2_strange : MethodName := ⟨RX2, "strange", "(I)Z"⟩
abbrev kX2_strange : Cond := .code yX2_strange cX2_strange 2 (some .boolean)
abbrev cX2_drop : ByteArray := prog_4_method_7_code
def yX2_drop : MethodName := ⟨RX2, "drop", "(I)Z"⟩
abbrev kX2_drop : Cond := .code yX2_drop cX2_drop 3 (some .boolean)
abbrev cX2_noClause : ByteArray := prog_4_method_6_code
def yX2_noClause : MethodName := ⟨RX2, "noClause", "(I)Z"⟩
abbrev kX2_noClause : Cond := .code yX2_noClause cX2_noClause 2 (some .boolean)
abbrev cX2_clauses : ByteArray := prog_4_method_8_code
def yX2_clauses : MethodName := ⟨RX2, "clauses", "()I"⟩
abbrev kX2_clauses : Cond := .code yX2_clauses cX2_clauses 1 (some .int)
abbrev cX2_play : ByteArray := prog_4_method_16_code
def yX2_play : MethodName := ⟨RX2, "play", "(I)I"⟩
abbrev kX2_play : Cond := .code yX2_play cX2_play 2 (some .int)
abbrev cX2_undo : ByteArray := prog_4_method_17_code
def yX2_undo : MethodName := ⟨RX2, "undo", "()Z"⟩
abbrev kX2_undo : Cond := .code yX2_undo cX2_undo 1 (some .boolean)
abbrev cX2_played : ByteArray := prog_4_method_18_code
def yX2_played : MethodName := ⟨RX2, "played", "()I"⟩
abbrev kX2_played : Cond := .code yX2_played cX2_played 1 (some .int)
abbrev cX2_wins : ByteArray := prog_4_method_19_code
def yX2_wins : MethodName := ⟨RX2, "wins", "()Z"⟩
abbrev kX2_wins : Cond := .code yX2_wins cX2_wins 1 (some .boolean)
abbrev cX2_look : ByteArray := prog_4_method_14_code
def yX2_look : MethodName := ⟨RX2, "look", "()V"⟩
abbrev kX2_look : Cond := .code yX2_look cX2_look 1 none
abbrev cX2_fill : ByteArray := prog_4_method_13_code
def yX2_fill : MethodName := ⟨RX2, "fill", "()V"⟩
abbrev kX2_fill : Cond := .code yX2_fill cX2_fill 3 none
abbrev cX2_onesAt : ByteArray := prog_4_method_12_code
def yX2_onesAt : MethodName := ⟨RX2, "onesAt", "(I)I"⟩
abbrev kX2_onesAt : Cond := .code yX2_onesAt cX2_onesAt 4 (some .int)
abbrev cX2_allHold : ByteArray := prog_4_method_11_code
def yX2_allHold : MethodName := ⟨RX2, "allHold", "(I)Z"⟩
abbrev kX2_allHold : Cond := .code yX2_allHold cX2_allHold 4 (some .boolean)
abbrev cX2_holds : ByteArray := prog_4_method_10_code
def yX2_holds : MethodName := ⟨RX2, "holds", "(III)Z"⟩
abbrev kX2_holds : Cond := .code yX2_holds cX2_holds 3 (some .boolean)
abbrev cX2_isAdams : ByteArray := prog_4_method_9_code
def yX2_isAdams : MethodName := ⟨RX2, "isAdams", "(I)Z"⟩
abbrev kX2_isAdams : Cond := .code yX2_isAdams cX2_isAdams 2 (some .boolean)
abbrev cX2_best : ByteArray := prog_4_method_20_code
def yX2_best : MethodName := ⟨RX2, "best", "()I"⟩
abbrev kX2_best : Cond := .code yX2_best cX2_best 1 (some .int)
abbrev cX2_move : ByteArray := prog_4_method_15_code
def yX2_move : MethodName := ⟨RX2, "move", "(II)I"⟩
abbrev kX2_move : Cond := .code yX2_move cX2_move 5 (some .int)
abbrev cX2_reply : ByteArray := prog_4_method_22_code
def yX2_reply : MethodName := ⟨RX2, "reply", "(II)I"⟩
abbrev kX2_reply : Cond := .code yX2_reply cX2_reply 3 (some .int)
abbrev cX2_led : ByteArray := prog_4_method_21_code
def yX2_led : MethodName := ⟨RX2, "led", "(IZI)I"⟩
abbrev kX2_led : Cond := .code yX2_led cX2_led 7 (some .int)
abbrev cX2_answer : ByteArray := prog_4_method_23_code
def yX2_answer : MethodName := ⟨RX2, "answer", "(II)I"⟩
abbrev kX2_answer : Cond := .code yX2_answer cX2_answer 3 (some .int)
abbrev cX2_idle : ByteArray := prog_4_method_24_code
def yX2_idle : MethodName := ⟨RX2, "idle", "(I)Z"⟩
abbrev kX2_idle : Cond := .code yX2_idle cX2_idle 3 (some .boolean)
abbrev cX2_harmless : ByteArray := prog_4_method_25_code
def yX2_harmless : MethodName := ⟨RX2, "harmless", "(II)Z"⟩
abbrev kX2_harmless : Cond := .code yX2_harmless cX2_harmless 4 (some .boolean)
abbrev cX2_models : ByteArray := prog_4_method_26_code
def yX2_models : MethodName := ⟨RX2, "models", "()I"⟩
abbrev kX2_models : Cond := .code yX2_models cX2_models 3 (some .int)
abbrev cX2_claim : ByteArray := prog_4_method_29_code
def yX2_claim : MethodName := ⟨RX2, "claim", "(II)Z"⟩
abbrev kX2_claim : Cond := .code yX2_claim cX2_claim 3 (some .boolean)
abbrev cX2_noEves : ByteArray := prog_4_method_28_code
def yX2_noEves : MethodName := ⟨RX2, "noEves", "(I)Z"⟩
abbrev kX2_noEves : Cond := .code yX2_noEves cX2_noEves 2 (some .boolean)
abbrev cX2_claimed : ByteArray := prog_4_method_30_code
def yX2_claimed : MethodName := ⟨RX2, "claimed", "(II)I"⟩
abbrev kX2_claimed : Cond := .code yX2_claimed cX2_claimed 3 (some .int)
abbrev cX2_before : ByteArray := prog_4_method_27_code
def yX2_before : MethodName := ⟨RX2, "before", "(I)I"⟩
abbrev kX2_before : Cond := .code yX2_before cX2_before 4 (some .int)
abbrev cX2_gap : ByteArray := prog_4_method_32_code
def yX2_gap : MethodName := ⟨RX2, "gap", "()I"⟩
abbrev kX2_gap : Cond := .code yX2_gap cX2_gap 2 (some .int)
abbrev cX2_reached : ByteArray := prog_4_method_31_code
def yX2_reached : MethodName := ⟨RX2, "reached", "(I)I"⟩
abbrev kX2_reached : Cond := .code yX2_reached cX2_reached 6 (some .int)
abbrev cX2_learn : ByteArray := prog_4_method_33_code
def yX2_learn : MethodName := ⟨RX2, "learn", "()I"⟩
abbrev kX2_learn : Cond := .code yX2_learn cX2_learn 4 (some .int)
abbrev clS : List vw_C := [(RX0, TX0, 4), (RX1, TX1, 10), (RX2, TX2, 14)]
/-- the words that every contract takes: the good ones of the tables -/
def aW : List Cond := lw_tbl.filter goodWord
theorem aW_mem {w : Cond} (i : Nat) (h : lw_tbl[i]? = some w) (g : goodWord w = true) : w ∈ aW := List.mem_filter.mpr ⟨List.mem_of_getElem? h, g⟩
theorem aW_good (w : Cond) (h : w ∈ aW) : goodWord w = true := (List.mem_filter.mp h).2
theorem aW_in (w : Cond) (h : w ∈ aW) : w ∈ lw_tbl := (List.mem_filter.mp h).1
theorem ws_X0_judgeAll : Cond.selects RX0 yX0_judgeAll yX0_judgeAll ∈ aW := aW_mem 0 rfl rfl
theorem ws_X0_judgeDepth : Cond.selects RX0 yX0_judgeDepth yX0_judgeDepth ∈ aW := aW_mem 1 rfl rfl
theorem ws_X1_areSets : Cond.selects RX1 yX1_areSets yX1_areSets ∈ aW := aW_mem 2 rfl rfl
theorem ws_X1_isClause : Cond.selects RX1 yX1_isClause yX1_isClause ∈ aW := aW_mem 3 rfl rfl
theorem ws_X1_isVariable : Cond.selects RX1 yX1_isVariable yX1_isVariable ∈ aW := aW_mem 4 rfl rfl
theorem ws_X1_valuesWithBest : Cond.selects RX1 yX1_valuesWithBest yX1_valuesWithBest ∈ aW := aW_mem 5 rfl rfl
theorem ws_X1_leavesWinner : Cond.selects RX1 yX1_leavesWinner yX1_leavesWinner ∈ aW := aW_mem 6 rfl rfl
theorem ws_X1_isEves : Cond.selects RX1 yX1_isEves yX1_isEves ∈ aW := aW_mem 7 rfl rfl
theorem ws_X1_sumsBefore : Cond.selects RX1 yX1_sumsBefore yX1_sumsBefore ∈ aW := aW_mem 8 rfl rfl
theorem ws_X1_valuesWithClaims : Cond.selects RX1 yX1_valuesWithClaims yX1_valuesWithClaims ∈ aW := aW_mem 9 rfl rfl
theorem ws_X1_adamValues : Cond.selects RX1 yX1_adamValues yX1_adamValues ∈ aW := aW_mem 10 rfl rfl
theorem ws_X1_sumBefore : Cond.selects RX1 yX1_sumBefore yX1_sumBefore ∈ aW := aW_mem 11 rfl rfl
theorem ws_X1_claimValues : Cond.selects RX1 yX1_claimValues yX1_claimValues ∈ aW := aW_mem 12 rfl rfl
theorem ws_X2_strange : Cond.selects RX2 yX2_strange yX2_strange ∈ aW := aW_mem 13 rfl rfl
theorem ws_X2_noClause : Cond.selects RX2 yX2_noClause yX2_noClause ∈ aW := aW_mem 14 rfl rfl
theorem ws_X2_look : Cond.selects RX2 yX2_look yX2_look ∈ aW := aW_mem 15 rfl rfl
theorem ws_X2_fill : Cond.selects RX2 yX2_fill yX2_fill ∈ aW := aW_mem 16 rfl rfl
theorem ws_X2_onesAt : Cond.selects RX2 yX2_onesAt yX2_onesAt ∈ aW := aW_mem 17 rfl rfl
theorem ws_X2_allHold : Cond.selects RX2 yX2_allHold yX2_allHold ∈ aW := aW_mem 18 rfl rfl
theorem ws_X2_isAdams : Cond.selects RX2 yX2_isAdams yX2_isAdams ∈ aW := aW_mem 19 rfl rfl
theorem ws_X2_move : Cond.selects RX2 yX2_move yX2_move ∈ aW := aW_mem 20 rfl rfl
theorem ws_X2_led : Cond.selects RX2 yX2_led yX2_led ∈ aW := aW_mem 21 rfl rfl
theorem ws_X2_noEves : Cond.selects RX2 yX2_noEves yX2_noEves ∈ aW := aW_mem 22 rfl rfl
theorem ws_X2_before : Cond.selects RX2 yX2_before yX2_before ∈ aW := aW_mem 23 rfl rfl
theorem ws_X2_reached : Cond.selects RX2 yX2_reached yX2_reached ∈ aW := aW_mem 24 rfl rfl
theorem wn_L : Cond.initialized RL ∈ aW := aW_mem 25 rfl rfl
theorem wn_X1 : Cond.initialized RX1 ∈ aW := aW_mem 26 rfl rfl
theorem wn_J9 : Cond.initialized RJ9 ∈ aW := aW_mem 27 rfl rfl
theorem wn_X0 : Cond.initialized RX0 ∈ aW := aW_mem 28 rfl rfl
theorem wn_X2 : Cond.initialized RX2 ∈ aW := aW_mem 29 rfl rfl
theorem wn_J6 : Cond.initialized RJ6 ∈ aW := aW_mem 30 rfl rfl
theorem wl_L_X1 : Cond.classLink RL 7 RX1 ∈ aW := aW_mem 31 rfl rfl
theorem wk_X1 : Cond.instantiable RX1 10 ∈ aW := aW_mem 32 rfl rfl
theorem wm_L_X1_init : Cond.methodLink RL 15 yX1_init ∈ aW := aW_mem 33 rfl rfl
theorem wi_X1_init : Cond.instanceMethod yX1_init ∈ aW := aW_mem 34 rfl rfl
theorem wc_X1_init : kX1_init ∈ aW := aW_mem 35 rfl rfl
theorem wm_X1_O_init : Cond.methodLink RX1 1 objectInit ∈ aW := aW_mem 36 rfl rfl
theorem wi_O_init : Cond.instanceMethod objectInit ∈ aW := aW_mem 37 rfl rfl
theorem wc_O_init : Cond.code objectInit ⟨#[0xb1]⟩ 1 none ∈ aW := aW_mem 38 rfl rfl
theorem wm_X1_J9_min : Cond.methodLink RX1 9 yJ9_min ∈ aW := aW_mem 39 rfl rfl
theorem wt_J9_min : Cond.static yJ9_min ∈ aW := aW_mem 40 rfl rfl
theorem wc_J9_min : kJ9_min ∈ aW := aW_mem 41 rfl rfl
theorem wm_X1_J9_max : Cond.methodLink RX1 15 yJ9_max ∈ aW := aW_mem 42 rfl rfl
theorem wt_J9_max : Cond.static yJ9_max ∈ aW := aW_mem 43 rfl rfl
theorem wc_J9_max : kJ9_max ∈ aW := aW_mem 44 rfl rfl
theorem wm_X1_X1_firstOf : Cond.methodLink RX1 22 yX1_firstOf ∈ aW := aW_mem 45 rfl rfl
theorem wt_X1_firstOf : Cond.static yX1_firstOf ∈ aW := aW_mem 46 rfl rfl
theorem wc_X1_firstOf : kX1_firstOf ∈ aW := aW_mem 47 rfl rfl
theorem wm_X1_X1_bit : Cond.methodLink RX1 83 yX1_bit ∈ aW := aW_mem 48 rfl rfl
theorem wt_X1_bit : Cond.static yX1_bit ∈ aW := aW_mem 49 rfl rfl
theorem wc_X1_bit : kX1_bit ∈ aW := aW_mem 50 rfl rfl
theorem wl_X1_X0 : Cond.classLink RX1 31 RX0 ∈ aW := aW_mem 51 rfl rfl
theorem wk_X0 : Cond.instantiable RX0 4 ∈ aW := aW_mem 52 rfl rfl
theorem wm_X1_X0_init : Cond.methodLink RX1 33 yX0_init ∈ aW := aW_mem 53 rfl rfl
theorem wi_X0_init : Cond.instanceMethod yX0_init ∈ aW := aW_mem 54 rfl rfl
theorem wc_X0_init : kX0_init ∈ aW := aW_mem 55 rfl rfl
theorem wm_X0_O_init : Cond.methodLink RX0 1 objectInit ∈ aW := aW_mem 56 rfl rfl
theorem wm_X0_X0_judgeAll : Cond.methodLink RX0 24 yX0_judgeAll ∈ aW := aW_mem 57 rfl rfl
theorem wi_X0_judgeAll : Cond.instanceMethod yX0_judgeAll ∈ aW := aW_mem 59 rfl rfl
theorem wc_X0_judgeAll : kX0_judgeAll ∈ aW := aW_mem 60 rfl rfl
theorem wm_X0_X0_judgeDepth : Cond.methodLink RX0 37 yX0_judgeDepth ∈ aW := aW_mem 61 rfl rfl
theorem wi_X0_judgeDepth : Cond.instanceMethod yX0_judgeDepth ∈ aW := aW_mem 63 rfl rfl
theorem wc_X0_judgeDepth : kX0_judgeDepth ∈ aW := aW_mem 64 rfl rfl
theorem wm_X0_X0_eveWinsAt : Cond.methodLink RX0 33 yX0_eveWinsAt ∈ aW := aW_mem 66 rfl rfl
theorem wi_X0_eveWinsAt : Cond.instanceMethod yX0_eveWinsAt ∈ aW := aW_mem 67 rfl rfl
theorem ws_X0_eveWinsAt : Cond.selects RX0 yX0_eveWinsAt yX0_eveWinsAt ∈ aW := aW_mem 68 rfl rfl
theorem wc_X0_eveWinsAt : kX0_eveWinsAt ∈ aW := aW_mem 69 rfl rfl
theorem wf_X0_size : Cond.fieldLink RX0 7 RX0 "size" "I" ∈ aW := aW_mem 70 rfl rfl
theorem wf_X0_adamSet : Cond.fieldLink RX0 13 RX0 "adamSet" "I" ∈ aW := aW_mem 71 rfl rfl
theorem wf_X0_broken : Cond.fieldLink RX0 16 RX0 "broken" "[I" ∈ aW := aW_mem 72 rfl rfl
theorem wf_X0_eveWins : Cond.fieldLink RX0 20 RX0 "eveWins" "[Z" ∈ aW := aW_mem 73 rfl rfl
theorem wa_int : Cond.arrayClass .int ∈ aW := aW_mem 83 rfl rfl
theorem wa_boolean : Cond.arrayClass .boolean ∈ aW := aW_mem 84 rfl rfl
theorem wf_X1_size : Cond.fieldLink RX1 18 RX1 "size" "I" ∈ aW := aW_mem 85 rfl rfl
theorem wf_X1_adamSet : Cond.fieldLink RX1 25 RX1 "adamSet" "I" ∈ aW := aW_mem 86 rfl rfl
theorem wf_X1_eveSet : Cond.fieldLink RX1 28 RX1 "eveSet" "I" ∈ aW := aW_mem 87 rfl rfl
theorem wf_X1_game : Cond.fieldLink RX1 36 RX1 "game" "LStrategyDesk$Game;" ∈ aW := aW_mem 88 rfl rfl
theorem wf_X1_yesSets : Cond.fieldLink RX1 40 RX1 "yesSets" "[I" ∈ aW := aW_mem 89 rfl rfl
theorem wf_X1_noSets : Cond.fieldLink RX1 44 RX1 "noSets" "[I" ∈ aW := aW_mem 90 rfl rfl
theorem wf_X1_clauseCount : Cond.fieldLink RX1 54 RX1 "clauseCount" "I" ∈ aW := aW_mem 91 rfl rfl
theorem wf_X1_playDepth : Cond.fieldLink RX1 65 RX1 "playDepth" "I" ∈ aW := aW_mem 92 rfl rfl
theorem wf_X1_playValues : Cond.fieldLink RX1 68 RX1 "playValues" "I" ∈ aW := aW_mem 93 rfl rfl
theorem wf_X1_tables : Cond.fieldLink RX1 47 RX1 "tables" "[I" ∈ aW := aW_mem 94 rfl rfl
theorem wm_L_X1_variables : Cond.methodLink RL 21 yX1_variables ∈ aW := aW_mem 116 rfl rfl
theorem wi_X1_variables : Cond.instanceMethod yX1_variables ∈ aW := aW_mem 117 rfl rfl
theorem ws_X1_variables : Cond.selects RX1 yX1_variables yX1_variables ∈ aW := aW_mem 118 rfl rfl
theorem wc_X1_variables : kX1_variables ∈ aW := aW_mem 119 rfl rfl
theorem wm_L_X1_adams : Cond.methodLink RL 26 yX1_adams ∈ aW := aW_mem 120 rfl rfl
theorem wi_X1_adams : Cond.instanceMethod yX1_adams ∈ aW := aW_mem 121 rfl rfl
theorem ws_X1_adams : Cond.selects RX1 yX1_adams yX1_adams ∈ aW := aW_mem 122 rfl rfl
theorem wc_X1_adams : kX1_adams ∈ aW := aW_mem 123 rfl rfl
theorem wm_L_X1_add : Cond.methodLink RL 30 yX1_add ∈ aW := aW_mem 124 rfl rfl
theorem wi_X1_add : Cond.instanceMethod yX1_add ∈ aW := aW_mem 125 rfl rfl
theorem ws_X1_add : Cond.selects RX1 yX1_add yX1_add ∈ aW := aW_mem 126 rfl rfl
theorem wc_X1_add : kX1_add ∈ aW := aW_mem 127 rfl rfl
theorem wm_X1_X1_areSets : Cond.methodLink RX1 50 yX1_areSets ∈ aW := aW_mem 128 rfl rfl
theorem wi_X1_areSets : Cond.instanceMethod yX1_areSets ∈ aW := aW_mem 130 rfl rfl
theorem wc_X1_areSets : kX1_areSets ∈ aW := aW_mem 131 rfl rfl
theorem wm_X1_X0_change : Cond.methodLink RX1 57 yX0_change ∈ aW := aW_mem 132 rfl rfl
theorem wi_X0_change : Cond.instanceMethod yX0_change ∈ aW := aW_mem 133 rfl rfl
theorem ws_X0_change : Cond.selects RX0 yX0_change yX0_change ∈ aW := aW_mem 134 rfl rfl
theorem wc_X0_change : kX0_change ∈ aW := aW_mem 135 rfl rfl
theorem wm_L_X1_drop : Cond.methodLink RL 35 yX1_drop ∈ aW := aW_mem 136 rfl rfl
theorem wi_X1_drop : Cond.instanceMethod yX1_drop ∈ aW := aW_mem 137 rfl rfl
theorem ws_X1_drop : Cond.selects RX1 yX1_drop yX1_drop ∈ aW := aW_mem 138 rfl rfl
theorem wc_X1_drop : kX1_drop ∈ aW := aW_mem 139 rfl rfl
theorem wm_X1_X1_isClause : Cond.methodLink RX1 61 yX1_isClause ∈ aW := aW_mem 140 rfl rfl
theorem wi_X1_isClause : Cond.instanceMethod yX1_isClause ∈ aW := aW_mem 142 rfl rfl
theorem wc_X1_isClause : kX1_isClause ∈ aW := aW_mem 143 rfl rfl
theorem wm_L_X1_clauses : Cond.methodLink RL 40 yX1_clauses ∈ aW := aW_mem 144 rfl rfl
theorem wi_X1_clauses : Cond.instanceMethod yX1_clauses ∈ aW := aW_mem 145 rfl rfl
theorem ws_X1_clauses : Cond.selects RX1 yX1_clauses yX1_clauses ∈ aW := aW_mem 146 rfl rfl
theorem wc_X1_clauses : kX1_clauses ∈ aW := aW_mem 147 rfl rfl
theorem wm_L_X1_play : Cond.methodLink RL 44 yX1_play ∈ aW := aW_mem 148 rfl rfl
theorem wi_X1_play : Cond.instanceMethod yX1_play ∈ aW := aW_mem 149 rfl rfl
theorem ws_X1_play : Cond.selects RX1 yX1_play yX1_play ∈ aW := aW_mem 150 rfl rfl
theorem wc_X1_play : kX1_play ∈ aW := aW_mem 151 rfl rfl
theorem wm_L_X1_undo : Cond.methodLink RL 49 yX1_undo ∈ aW := aW_mem 152 rfl rfl
theorem wi_X1_undo : Cond.instanceMethod yX1_undo ∈ aW := aW_mem 153 rfl rfl
theorem ws_X1_undo : Cond.selects RX1 yX1_undo yX1_undo ∈ aW := aW_mem 154 rfl rfl
theorem wc_X1_undo : kX1_undo ∈ aW := aW_mem 155 rfl rfl
theorem wm_L_X1_played : Cond.methodLink RL 54 yX1_played ∈ aW := aW_mem 156 rfl rfl
theorem wi_X1_played : Cond.instanceMethod yX1_played ∈ aW := aW_mem 157 rfl rfl
theorem ws_X1_played : Cond.selects RX1 yX1_played yX1_played ∈ aW := aW_mem 158 rfl rfl
theorem wc_X1_played : kX1_played ∈ aW := aW_mem 159 rfl rfl
theorem wm_L_X1_wins : Cond.methodLink RL 58 yX1_wins ∈ aW := aW_mem 160 rfl rfl
theorem wi_X1_wins : Cond.instanceMethod yX1_wins ∈ aW := aW_mem 161 rfl rfl
theorem ws_X1_wins : Cond.selects RX1 yX1_wins yX1_wins ∈ aW := aW_mem 162 rfl rfl
theorem wc_X1_wins : kX1_wins ∈ aW := aW_mem 163 rfl rfl
theorem wm_X1_X0_eveWinsAt : Cond.methodLink RX1 71 yX0_eveWinsAt ∈ aW := aW_mem 164 rfl rfl
theorem wm_L_X1_best : Cond.methodLink RL 62 yX1_best ∈ aW := aW_mem 165 rfl rfl
theorem wi_X1_best : Cond.instanceMethod yX1_best ∈ aW := aW_mem 166 rfl rfl
theorem ws_X1_best : Cond.selects RX1 yX1_best yX1_best ∈ aW := aW_mem 167 rfl rfl
theorem wc_X1_best : kX1_best ∈ aW := aW_mem 168 rfl rfl
theorem wm_X1_X0_bestMove : Cond.methodLink RX1 74 yX0_bestMove ∈ aW := aW_mem 169 rfl rfl
theorem wi_X0_bestMove : Cond.instanceMethod yX0_bestMove ∈ aW := aW_mem 170 rfl rfl
theorem ws_X0_bestMove : Cond.selects RX0 yX0_bestMove yX0_bestMove ∈ aW := aW_mem 171 rfl rfl
theorem wc_X0_bestMove : kX0_bestMove ∈ aW := aW_mem 172 rfl rfl
theorem wm_L_X1_reply : Cond.methodLink RL 66 yX1_reply ∈ aW := aW_mem 173 rfl rfl
theorem wi_X1_reply : Cond.instanceMethod yX1_reply ∈ aW := aW_mem 174 rfl rfl
theorem ws_X1_reply : Cond.selects RX1 yX1_reply yX1_reply ∈ aW := aW_mem 175 rfl rfl
theorem wc_X1_reply : kX1_reply ∈ aW := aW_mem 176 rfl rfl
theorem wm_X1_X1_isVariable : Cond.methodLink RX1 77 yX1_isVariable ∈ aW := aW_mem 177 rfl rfl
theorem wi_X1_isVariable : Cond.instanceMethod yX1_isVariable ∈ aW := aW_mem 179 rfl rfl
theorem wc_X1_isVariable : kX1_isVariable ∈ aW := aW_mem 180 rfl rfl
theorem wm_X1_X1_valuesWithBest : Cond.methodLink RX1 80 yX1_valuesWithBest ∈ aW := aW_mem 181 rfl rfl
theorem wi_X1_valuesWithBest : Cond.instanceMethod yX1_valuesWithBest ∈ aW := aW_mem 183 rfl rfl
theorem wc_X1_valuesWithBest : kX1_valuesWithBest ∈ aW := aW_mem 184 rfl rfl
theorem wm_L_X1_answer : Cond.methodLink RL 70 yX1_answer ∈ aW := aW_mem 185 rfl rfl
theorem wi_X1_answer : Cond.instanceMethod yX1_answer ∈ aW := aW_mem 186 rfl rfl
theorem ws_X1_answer : Cond.selects RX1 yX1_answer yX1_answer ∈ aW := aW_mem 187 rfl rfl
theorem wc_X1_answer : kX1_answer ∈ aW := aW_mem 188 rfl rfl
theorem wm_L_X1_idle : Cond.methodLink RL 74 yX1_idle ∈ aW := aW_mem 189 rfl rfl
theorem wi_X1_idle : Cond.instanceMethod yX1_idle ∈ aW := aW_mem 190 rfl rfl
theorem ws_X1_idle : Cond.selects RX1 yX1_idle yX1_idle ∈ aW := aW_mem 191 rfl rfl
theorem wc_X1_idle : kX1_idle ∈ aW := aW_mem 192 rfl rfl
theorem wm_X1_X1_leavesWinner : Cond.methodLink RX1 86 yX1_leavesWinner ∈ aW := aW_mem 193 rfl rfl
theorem wi_X1_leavesWinner : Cond.instanceMethod yX1_leavesWinner ∈ aW := aW_mem 195 rfl rfl
theorem wc_X1_leavesWinner : kX1_leavesWinner ∈ aW := aW_mem 196 rfl rfl
theorem wm_L_X1_harmless : Cond.methodLink RL 78 yX1_harmless ∈ aW := aW_mem 197 rfl rfl
theorem wi_X1_harmless : Cond.instanceMethod yX1_harmless ∈ aW := aW_mem 198 rfl rfl
theorem ws_X1_harmless : Cond.selects RX1 yX1_harmless yX1_harmless ∈ aW := aW_mem 199 rfl rfl
theorem wc_X1_harmless : kX1_harmless ∈ aW := aW_mem 200 rfl rfl
theorem wm_L_X1_models : Cond.methodLink RL 83 yX1_models ∈ aW := aW_mem 201 rfl rfl
theorem wi_X1_models : Cond.instanceMethod yX1_models ∈ aW := aW_mem 202 rfl rfl
theorem ws_X1_models : Cond.selects RX1 yX1_models yX1_models ∈ aW := aW_mem 203 rfl rfl
theorem wc_X1_models : kX1_models ∈ aW := aW_mem 204 rfl rfl
theorem wm_X1_X0_countModels : Cond.methodLink RX1 90 yX0_countModels ∈ aW := aW_mem 205 rfl rfl
theorem wi_X0_countModels : Cond.instanceMethod yX0_countModels ∈ aW := aW_mem 206 rfl rfl
theorem ws_X0_countModels : Cond.selects RX0 yX0_countModels yX0_countModels ∈ aW := aW_mem 207 rfl rfl
theorem wc_X0_countModels : kX0_countModels ∈ aW := aW_mem 208 rfl rfl
theorem wm_L_X1_claim : Cond.methodLink RL 87 yX1_claim ∈ aW := aW_mem 209 rfl rfl
theorem wi_X1_claim : Cond.instanceMethod yX1_claim ∈ aW := aW_mem 210 rfl rfl
theorem ws_X1_claim : Cond.selects RX1 yX1_claim yX1_claim ∈ aW := aW_mem 211 rfl rfl
theorem wc_X1_claim : kX1_claim ∈ aW := aW_mem 212 rfl rfl
theorem wm_X1_X1_isEves : Cond.methodLink RX1 94 yX1_isEves ∈ aW := aW_mem 213 rfl rfl
theorem wi_X1_isEves : Cond.instanceMethod yX1_isEves ∈ aW := aW_mem 215 rfl rfl
theorem wc_X1_isEves : kX1_isEves ∈ aW := aW_mem 216 rfl rfl
theorem wm_L_X1_gap : Cond.methodLink RL 91 yX1_gap ∈ aW := aW_mem 217 rfl rfl
theorem wi_X1_gap : Cond.instanceMethod yX1_gap ∈ aW := aW_mem 218 rfl rfl
theorem ws_X1_gap : Cond.selects RX1 yX1_gap yX1_gap ∈ aW := aW_mem 219 rfl rfl
theorem wc_X1_gap : kX1_gap ∈ aW := aW_mem 220 rfl rfl
theorem wm_X1_X1_sumsBefore : Cond.methodLink RX1 97 yX1_sumsBefore ∈ aW := aW_mem 221 rfl rfl
theorem wi_X1_sumsBefore : Cond.instanceMethod yX1_sumsBefore ∈ aW := aW_mem 223 rfl rfl
theorem wc_X1_sumsBefore : kX1_sumsBefore ∈ aW := aW_mem 224 rfl rfl
theorem wm_X1_J6_bitCount : Cond.methodLink RX1 116 yJ6_bitCount ∈ aW := aW_mem 225 rfl rfl
theorem wt_J6_bitCount : Cond.static yJ6_bitCount ∈ aW := aW_mem 226 rfl rfl
theorem wc_J6_bitCount : kJ6_bitCount ∈ aW := aW_mem 227 rfl rfl
theorem wq_J6_265 : Cond.constant RJ6 265 (1431655765) ∈ aW := aW_mem 228 rfl rfl
theorem wq_J6_266 : Cond.constant RJ6 266 (858993459) ∈ aW := aW_mem 229 rfl rfl
theorem wq_J6_267 : Cond.constant RJ6 267 (252645135) ∈ aW := aW_mem 230 rfl rfl
theorem wm_X1_X1_valuesWithClaims : Cond.methodLink RX1 101 yX1_valuesWithClaims ∈ aW := aW_mem 231 rfl rfl
theorem wi_X1_valuesWithClaims : Cond.instanceMethod yX1_valuesWithClaims ∈ aW := aW_mem 233 rfl rfl
theorem wc_X1_valuesWithClaims : kX1_valuesWithClaims ∈ aW := aW_mem 234 rfl rfl
theorem wm_X1_X1_adamValues : Cond.methodLink RX1 104 yX1_adamValues ∈ aW := aW_mem 235 rfl rfl
theorem wi_X1_adamValues : Cond.instanceMethod yX1_adamValues ∈ aW := aW_mem 237 rfl rfl
theorem wc_X1_adamValues : kX1_adamValues ∈ aW := aW_mem 238 rfl rfl
theorem wm_X1_X1_sumBefore : Cond.methodLink RX1 113 yX1_sumBefore ∈ aW := aW_mem 239 rfl rfl
theorem wi_X1_sumBefore : Cond.instanceMethod yX1_sumBefore ∈ aW := aW_mem 241 rfl rfl
theorem wc_X1_sumBefore : kX1_sumBefore ∈ aW := aW_mem 242 rfl rfl
theorem wm_L_X1_learn : Cond.methodLink RL 95 yX1_learn ∈ aW := aW_mem 243 rfl rfl
theorem wi_X1_learn : Cond.instanceMethod yX1_learn ∈ aW := aW_mem 244 rfl rfl
theorem ws_X1_learn : Cond.selects RX1 yX1_learn yX1_learn ∈ aW := aW_mem 245 rfl rfl
theorem wc_X1_learn : kX1_learn ∈ aW := aW_mem 246 rfl rfl
theorem wm_X1_X1_claimValues : Cond.methodLink RX1 107 yX1_claimValues ∈ aW := aW_mem 247 rfl rfl
theorem wi_X1_claimValues : Cond.instanceMethod yX1_claimValues ∈ aW := aW_mem 249 rfl rfl
theorem wc_X1_claimValues : kX1_claimValues ∈ aW := aW_mem 250 rfl rfl
theorem wm_X1_X1_gap : Cond.methodLink RX1 110 yX1_gap ∈ aW := aW_mem 251 rfl rfl
theorem wm_L_X1_claimed : Cond.methodLink RL 99 yX1_claimed ∈ aW := aW_mem 252 rfl rfl
theorem wi_X1_claimed : Cond.instanceMethod yX1_claimed ∈ aW := aW_mem 253 rfl rfl
theorem ws_X1_claimed : Cond.selects RX1 yX1_claimed yX1_claimed ∈ aW := aW_mem 254 rfl rfl
theorem wc_X1_claimed : kX1_claimed ∈ aW := aW_mem 255 rfl rfl
theorem wm_L_L_cell : Cond.methodLink RL 9 yL_cell ∈ aW := aW_mem 256 rfl rfl
theorem wt_L_cell : Cond.static yL_cell ∈ aW := aW_mem 257 rfl rfl
theorem wc_L_cell : kL_cell ∈ aW := aW_mem 258 rfl rfl
theorem wl_L_X2 : Cond.classLink RL 18 RX2 ∈ aW := aW_mem 259 rfl rfl
theorem wk_X2 : Cond.instantiable RX2 14 ∈ aW := aW_mem 260 rfl rfl
theorem wm_L_X2_init : Cond.methodLink RL 20 yX2_init ∈ aW := aW_mem 261 rfl rfl
theorem wi_X2_init : Cond.instanceMethod yX2_init ∈ aW := aW_mem 262 rfl rfl
theorem wc_X2_init : kX2_init ∈ aW := aW_mem 263 rfl rfl
theorem wm_X2_O_init : Cond.methodLink RX2 1 objectInit ∈ aW := aW_mem 264 rfl rfl
theorem wf_X2_n : Cond.fieldLink RX2 30 RX2 "n" "I" ∈ aW := aW_mem 265 rfl rfl
theorem wf_X2_adam : Cond.fieldLink RX2 33 RX2 "adam" "I" ∈ aW := aW_mem 266 rfl rfl
theorem wf_X2_many : Cond.fieldLink RX2 40 RX2 "many" "I" ∈ aW := aW_mem 267 rfl rfl
theorem wf_X2_yes : Cond.fieldLink RX2 7 RX2 "yes" "[I" ∈ aW := aW_mem 268 rfl rfl
theorem wf_X2_no : Cond.fieldLink RX2 13 RX2 "no" "[I" ∈ aW := aW_mem 269 rfl rfl
theorem wf_X2_known : Cond.fieldLink RX2 43 RX2 "known" "Z" ∈ aW := aW_mem 270 rfl rfl
theorem wf_X2_skip : Cond.fieldLink RX2 16 RX2 "skip" "I" ∈ aW := aW_mem 271 rfl rfl
theorem wf_X2_more : Cond.fieldLink RX2 50 RX2 "more" "Z" ∈ aW := aW_mem 272 rfl rfl
theorem wf_X2_moreYes : Cond.fieldLink RX2 53 RX2 "moreYes" "I" ∈ aW := aW_mem 273 rfl rfl
theorem wf_X2_moreNo : Cond.fieldLink RX2 56 RX2 "moreNo" "I" ∈ aW := aW_mem 274 rfl rfl
theorem wf_X2_win : Cond.fieldLink RX2 20 RX2 "win" "[Z" ∈ aW := aW_mem 275 rfl rfl
theorem wf_X2_position : Cond.fieldLink RX2 24 RX2 "position" "I" ∈ aW := aW_mem 276 rfl rfl
theorem wf_X2_set : Cond.fieldLink RX2 76 RX2 "set" "I" ∈ aW := aW_mem 277 rfl rfl
theorem wf_X2_tables : Cond.fieldLink RX2 27 RX2 "tables" "[I" ∈ aW := aW_mem 278 rfl rfl
theorem wm_L_X2_variables : Cond.methodLink RL 25 yX2_variables ∈ aW := aW_mem 308 rfl rfl
theorem wi_X2_variables : Cond.instanceMethod yX2_variables ∈ aW := aW_mem 309 rfl rfl
theorem ws_X2_variables : Cond.selects RX2 yX2_variables yX2_variables ∈ aW := aW_mem 310 rfl rfl
theorem wc_X2_variables : kX2_variables ∈ aW := aW_mem 311 rfl rfl
theorem wm_L_X2_adams : Cond.methodLink RL 29 yX2_adams ∈ aW := aW_mem 312 rfl rfl
theorem wi_X2_adams : Cond.instanceMethod yX2_adams ∈ aW := aW_mem 313 rfl rfl
theorem ws_X2_adams : Cond.selects RX2 yX2_adams yX2_adams ∈ aW := aW_mem 314 rfl rfl
theorem wc_X2_adams : kX2_adams ∈ aW := aW_mem 315 rfl rfl
theorem wm_L_X2_add : Cond.methodLink RL 34 yX2_add ∈ aW := aW_mem 316 rfl rfl
theorem wi_X2_add : Cond.instanceMethod yX2_add ∈ aW := aW_mem 317 rfl rfl
theorem ws_X2_add : Cond.selects RX2 yX2_add yX2_add ∈ aW := aW_mem 318 rfl rfl
theorem wc_X2_add : kX2_add ∈ aW := aW_mem 319 rfl rfl
theorem wm_X2_X2_strange : Cond.methodLink RX2 36 yX2_strange ∈ aW := aW_mem 320 rfl rfl
theorem wi_X2_strange : Cond.instanceMethod yX2_strange ∈ aW := aW_mem 322 rfl rfl
theorem wc_X2_strange : kX2_strange ∈ aW := aW_mem 323 rfl rfl
theorem wm_L_X2_drop : Cond.methodLink RL 39 yX2_drop ∈ aW := aW_mem 324 rfl rfl
theorem wi_X2_drop : Cond.instanceMethod yX2_drop ∈ aW := aW_mem 325 rfl rfl
theorem ws_X2_drop : Cond.selects RX2 yX2_drop yX2_drop ∈ aW := aW_mem 326 rfl rfl
theorem wc_X2_drop : kX2_drop ∈ aW := aW_mem 327 rfl rfl
theorem wm_X2_X2_noClause : Cond.methodLink RX2 47 yX2_noClause ∈ aW := aW_mem 328 rfl rfl
theorem wi_X2_noClause : Cond.instanceMethod yX2_noClause ∈ aW := aW_mem 330 rfl rfl
theorem wc_X2_noClause : kX2_noClause ∈ aW := aW_mem 331 rfl rfl
theorem wm_L_X2_clauses : Cond.methodLink RL 43 yX2_clauses ∈ aW := aW_mem 332 rfl rfl
theorem wi_X2_clauses : Cond.instanceMethod yX2_clauses ∈ aW := aW_mem 333 rfl rfl
theorem ws_X2_clauses : Cond.selects RX2 yX2_clauses yX2_clauses ∈ aW := aW_mem 334 rfl rfl
theorem wc_X2_clauses : kX2_clauses ∈ aW := aW_mem 335 rfl rfl
theorem wm_L_X2_play : Cond.methodLink RL 48 yX2_play ∈ aW := aW_mem 336 rfl rfl
theorem wi_X2_play : Cond.instanceMethod yX2_play ∈ aW := aW_mem 337 rfl rfl
theorem ws_X2_play : Cond.selects RX2 yX2_play yX2_play ∈ aW := aW_mem 338 rfl rfl
theorem wc_X2_play : kX2_play ∈ aW := aW_mem 339 rfl rfl
theorem wm_L_X2_undo : Cond.methodLink RL 53 yX2_undo ∈ aW := aW_mem 340 rfl rfl
theorem wi_X2_undo : Cond.instanceMethod yX2_undo ∈ aW := aW_mem 341 rfl rfl
theorem ws_X2_undo : Cond.selects RX2 yX2_undo yX2_undo ∈ aW := aW_mem 342 rfl rfl
theorem wc_X2_undo : kX2_undo ∈ aW := aW_mem 343 rfl rfl
theorem wm_L_X2_played : Cond.methodLink RL 57 yX2_played ∈ aW := aW_mem 344 rfl rfl
theorem wi_X2_played : Cond.instanceMethod yX2_played ∈ aW := aW_mem 345 rfl rfl
theorem ws_X2_played : Cond.selects RX2 yX2_played yX2_played ∈ aW := aW_mem 346 rfl rfl
theorem wc_X2_played : kX2_played ∈ aW := aW_mem 347 rfl rfl
theorem wm_L_X2_wins : Cond.methodLink RL 61 yX2_wins ∈ aW := aW_mem 348 rfl rfl
theorem wi_X2_wins : Cond.instanceMethod yX2_wins ∈ aW := aW_mem 349 rfl rfl
theorem ws_X2_wins : Cond.selects RX2 yX2_wins yX2_wins ∈ aW := aW_mem 350 rfl rfl
theorem wc_X2_wins : kX2_wins ∈ aW := aW_mem 351 rfl rfl
theorem wm_X2_X2_look : Cond.methodLink RX2 79 yX2_look ∈ aW := aW_mem 352 rfl rfl
theorem wi_X2_look : Cond.instanceMethod yX2_look ∈ aW := aW_mem 354 rfl rfl
theorem wc_X2_look : kX2_look ∈ aW := aW_mem 355 rfl rfl
theorem wm_X2_X2_fill : Cond.methodLink RX2 73 yX2_fill ∈ aW := aW_mem 356 rfl rfl
theorem wi_X2_fill : Cond.instanceMethod yX2_fill ∈ aW := aW_mem 358 rfl rfl
theorem wc_X2_fill : kX2_fill ∈ aW := aW_mem 359 rfl rfl
theorem wm_X2_X2_onesAt : Cond.methodLink RX2 63 yX2_onesAt ∈ aW := aW_mem 360 rfl rfl
theorem wi_X2_onesAt : Cond.instanceMethod yX2_onesAt ∈ aW := aW_mem 362 rfl rfl
theorem wc_X2_onesAt : kX2_onesAt ∈ aW := aW_mem 363 rfl rfl
theorem wm_X2_X2_allHold : Cond.methodLink RX2 67 yX2_allHold ∈ aW := aW_mem 364 rfl rfl
theorem wi_X2_allHold : Cond.instanceMethod yX2_allHold ∈ aW := aW_mem 366 rfl rfl
theorem wc_X2_allHold : kX2_allHold ∈ aW := aW_mem 367 rfl rfl
theorem wm_X2_X2_holds : Cond.methodLink RX2 59 yX2_holds ∈ aW := aW_mem 368 rfl rfl
theorem wt_X2_holds : Cond.static yX2_holds ∈ aW := aW_mem 369 rfl rfl
theorem wc_X2_holds : kX2_holds ∈ aW := aW_mem 370 rfl rfl
theorem wm_X2_X2_isAdams : Cond.methodLink RX2 70 yX2_isAdams ∈ aW := aW_mem 371 rfl rfl
theorem wi_X2_isAdams : Cond.instanceMethod yX2_isAdams ∈ aW := aW_mem 373 rfl rfl
theorem wc_X2_isAdams : kX2_isAdams ∈ aW := aW_mem 374 rfl rfl
theorem wm_L_X2_best : Cond.methodLink RL 65 yX2_best ∈ aW := aW_mem 375 rfl rfl
theorem wi_X2_best : Cond.instanceMethod yX2_best ∈ aW := aW_mem 376 rfl rfl
theorem ws_X2_best : Cond.selects RX2 yX2_best yX2_best ∈ aW := aW_mem 377 rfl rfl
theorem wc_X2_best : kX2_best ∈ aW := aW_mem 378 rfl rfl
theorem wm_X2_X2_move : Cond.methodLink RX2 82 yX2_move ∈ aW := aW_mem 379 rfl rfl
theorem wi_X2_move : Cond.instanceMethod yX2_move ∈ aW := aW_mem 381 rfl rfl
theorem wc_X2_move : kX2_move ∈ aW := aW_mem 382 rfl rfl
theorem wm_L_X2_reply : Cond.methodLink RL 69 yX2_reply ∈ aW := aW_mem 383 rfl rfl
theorem wi_X2_reply : Cond.instanceMethod yX2_reply ∈ aW := aW_mem 384 rfl rfl
theorem ws_X2_reply : Cond.selects RX2 yX2_reply yX2_reply ∈ aW := aW_mem 385 rfl rfl
theorem wc_X2_reply : kX2_reply ∈ aW := aW_mem 386 rfl rfl
theorem wm_X2_X2_led : Cond.methodLink RX2 86 yX2_led ∈ aW := aW_mem 387 rfl rfl
theorem wi_X2_led : Cond.instanceMethod yX2_led ∈ aW := aW_mem 389 rfl rfl
theorem wc_X2_led : kX2_led ∈ aW := aW_mem 390 rfl rfl
theorem wm_L_X2_answer : Cond.methodLink RL 73 yX2_answer ∈ aW := aW_mem 391 rfl rfl
theorem wi_X2_answer : Cond.instanceMethod yX2_answer ∈ aW := aW_mem 392 rfl rfl
theorem ws_X2_answer : Cond.selects RX2 yX2_answer yX2_answer ∈ aW := aW_mem 393 rfl rfl
theorem wc_X2_answer : kX2_answer ∈ aW := aW_mem 394 rfl rfl
theorem wm_L_X2_idle : Cond.methodLink RL 77 yX2_idle ∈ aW := aW_mem 395 rfl rfl
theorem wi_X2_idle : Cond.instanceMethod yX2_idle ∈ aW := aW_mem 396 rfl rfl
theorem ws_X2_idle : Cond.selects RX2 yX2_idle yX2_idle ∈ aW := aW_mem 397 rfl rfl
theorem wc_X2_idle : kX2_idle ∈ aW := aW_mem 398 rfl rfl
theorem wm_L_X2_harmless : Cond.methodLink RL 82 yX2_harmless ∈ aW := aW_mem 399 rfl rfl
theorem wi_X2_harmless : Cond.instanceMethod yX2_harmless ∈ aW := aW_mem 400 rfl rfl
theorem ws_X2_harmless : Cond.selects RX2 yX2_harmless yX2_harmless ∈ aW := aW_mem 401 rfl rfl
theorem wc_X2_harmless : kX2_harmless ∈ aW := aW_mem 402 rfl rfl
theorem wm_L_X2_models : Cond.methodLink RL 86 yX2_models ∈ aW := aW_mem 403 rfl rfl
theorem wi_X2_models : Cond.instanceMethod yX2_models ∈ aW := aW_mem 404 rfl rfl
theorem ws_X2_models : Cond.selects RX2 yX2_models yX2_models ∈ aW := aW_mem 405 rfl rfl
theorem wc_X2_models : kX2_models ∈ aW := aW_mem 406 rfl rfl
theorem wm_L_X2_claim : Cond.methodLink RL 90 yX2_claim ∈ aW := aW_mem 407 rfl rfl
theorem wi_X2_claim : Cond.instanceMethod yX2_claim ∈ aW := aW_mem 408 rfl rfl
theorem ws_X2_claim : Cond.selects RX2 yX2_claim yX2_claim ∈ aW := aW_mem 409 rfl rfl
theorem wc_X2_claim : kX2_claim ∈ aW := aW_mem 410 rfl rfl
theorem wm_X2_X2_noEves : Cond.methodLink RX2 90 yX2_noEves ∈ aW := aW_mem 411 rfl rfl
theorem wi_X2_noEves : Cond.instanceMethod yX2_noEves ∈ aW := aW_mem 413 rfl rfl
theorem wc_X2_noEves : kX2_noEves ∈ aW := aW_mem 414 rfl rfl
theorem wm_L_X2_claimed : Cond.methodLink RL 102 yX2_claimed ∈ aW := aW_mem 415 rfl rfl
theorem wi_X2_claimed : Cond.instanceMethod yX2_claimed ∈ aW := aW_mem 416 rfl rfl
theorem ws_X2_claimed : Cond.selects RX2 yX2_claimed yX2_claimed ∈ aW := aW_mem 417 rfl rfl
theorem wc_X2_claimed : kX2_claimed ∈ aW := aW_mem 418 rfl rfl
theorem wm_X2_X2_before : Cond.methodLink RX2 93 yX2_before ∈ aW := aW_mem 419 rfl rfl
theorem wi_X2_before : Cond.instanceMethod yX2_before ∈ aW := aW_mem 421 rfl rfl
theorem wc_X2_before : kX2_before ∈ aW := aW_mem 422 rfl rfl
theorem wm_L_X2_gap : Cond.methodLink RL 94 yX2_gap ∈ aW := aW_mem 423 rfl rfl
theorem wi_X2_gap : Cond.instanceMethod yX2_gap ∈ aW := aW_mem 424 rfl rfl
theorem ws_X2_gap : Cond.selects RX2 yX2_gap yX2_gap ∈ aW := aW_mem 425 rfl rfl
theorem wc_X2_gap : kX2_gap ∈ aW := aW_mem 426 rfl rfl
theorem wm_X2_X2_reached : Cond.methodLink RX2 96 yX2_reached ∈ aW := aW_mem 427 rfl rfl
theorem wi_X2_reached : Cond.instanceMethod yX2_reached ∈ aW := aW_mem 429 rfl rfl
theorem wc_X2_reached : kX2_reached ∈ aW := aW_mem 430 rfl rfl
theorem wm_L_X2_learn : Cond.methodLink RL 98 yX2_learn ∈ aW := aW_mem 431 rfl rfl
theorem wi_X2_learn : Cond.instanceMethod yX2_learn ∈ aW := aW_mem 432 rfl rfl
theorem ws_X2_learn : Cond.selects RX2 yX2_learn yX2_learn ∈ aW := aW_mem 433 rfl rfl
theorem wc_X2_learn : kX2_learn ∈ aW := aW_mem 434 rfl rfl
theorem wm_X2_X2_gap : Cond.methodLink RX2 99 yX2_gap ∈ aW := aW_mem 435 rfl rfl
/-- the one link between nest mates: it is no good word, so each contract that needs it says so -/
def nstW : Cond := .methodLinkNest RX0 27 yX1_bit RX1
theorem nstW_in : nstW ∈ lw_tbl := List.mem_of_getElem? (i := 65) rfl
def nst (U : State) : Prop := va_Nw nstW U
theorem inX0 : ∀ w ∈ u_ws RX0 TX0 4, w ∈ aW := by
  intro w h
  obtain ⟨j, hj, rfl⟩ := List.mem_map.mp h
  have hj := List.mem_range.mp hj
  match j, hj with
  | 0, _ => exact aW_mem 74 rfl rfl
  | 1, _ => exact aW_mem 76 rfl rfl
  | 2, _ => exact aW_mem 78 rfl rfl
  | 3, _ => exact aW_mem 80 rfl rfl
  | t + 4, h => omega
theorem inX1 : ∀ w ∈ u_ws RX1 TX1 10, w ∈ aW := by
  intro w h
  obtain ⟨j, hj, rfl⟩ := List.mem_map.mp h
  have hj := List.mem_range.mp hj
  match j, hj with
  | 0, _ => exact aW_mem 95 rfl rfl
  | 1, _ => exact aW_mem 97 rfl rfl
  | 2, _ => exact aW_mem 99 rfl rfl
  | 3, _ => exact aW_mem 101 rfl rfl
  | 4, _ => exact aW_mem 103 rfl rfl
  | 5, _ => exact aW_mem 105 rfl rfl
  | 6, _ => exact aW_mem 107 rfl rfl
  | 7, _ => exact aW_mem 109 rfl rfl
  | 8, _ => exact aW_mem 111 rfl rfl
  | 9, _ => exact aW_mem 113 rfl rfl
  | t + 10, h => omega
theorem inX2 : ∀ w ∈ u_ws RX2 TX2 14, w ∈ aW := by
  intro w h
  obtain ⟨j, hj, rfl⟩ := List.mem_map.mp h
  have hj := List.mem_range.mp hj
  match j, hj with
  | 0, _ => exact aW_mem 279 rfl rfl
  | 1, _ => exact aW_mem 281 rfl rfl
  | 2, _ => exact aW_mem 283 rfl rfl
  | 3, _ => exact aW_mem 285 rfl rfl
  | 4, _ => exact aW_mem 287 rfl rfl
  | 5, _ => exact aW_mem 289 rfl rfl
  | 6, _ => exact aW_mem 291 rfl rfl
  | 7, _ => exact aW_mem 293 rfl rfl
  | 8, _ => exact aW_mem 295 rfl rfl
  | 9, _ => exact aW_mem 297 rfl rfl
  | 10, _ => exact aW_mem 299 rfl rfl
  | 11, _ => exact aW_mem 301 rfl rfl
  | 12, _ => exact aW_mem 303 rfl rfl
  | 13, _ => exact aW_mem 305 rfl rfl
  | t + 14, h => omega
end
section
/-! Help rows of my own: words, contracts of calls that change nothing and of calls that change cells but make none, arrays by Nat places, numbers. -/
-- words
theorem gA {cy : Cond} (h5 : cy ∈ aW) : GoodIn aW (cy :: aW) := by
  intro w hw
  have hm : w ∈ aW := by
    rcases List.mem_cons.mp hw with h | h
    · rw [h]; exact h5
    · exact h
  exact ⟨hm, good_of_word (aW_good w hm)⟩
theorem gV {own C : String} {idx : Nat} {y : MethodName} {cy : Cond} (h1 : Cond.methodLink own idx y ∈ aW) (h2 : Cond.instanceMethod y ∈ aW) (h3 : Cond.selects C y y ∈ aW) (h4 : Cond.initialized C ∈ aW) (h5 : cy ∈ aW) : GoodIn aW (wsV own idx C y (cy :: aW)) := by
  intro w hw
  have hm : w ∈ aW := by
    unfold wsV at hw
    rcases List.mem_append.mp hw with h | h
    · rcases List.mem_cons.mp h with h | h
      · rw [h]; exact h1
      rcases List.mem_cons.mp h with h | h
      · rw [h]; exact h2
      rcases List.mem_cons.mp h with h | h
      · rw [h]; exact h3
      rw [List.mem_singleton.mp h]; exact h4
    · rcases List.mem_cons.mp h with h | h
      · rw [h]; exact h5
      · exact h
  exact ⟨hm, good_of_word (aW_good w hm)⟩
theorem gS {own : String} {idx : Nat} {y : MethodName} {cy : Cond} (h1 : Cond.methodLink own idx y ∈ aW) (h2 : Cond.static y ∈ aW) (h4 : Cond.initialized y.cls ∈ aW) (h5 : cy ∈ aW) : GoodIn aW (va_wsS own idx y (cy :: aW)) := by
  intro w hw
  have hm : w ∈ aW := by
    unfold va_wsS at hw
    rcases List.mem_append.mp hw with h | h
    · rcases List.mem_cons.mp h with h | h
      · rw [h]; exact h1
      rcases List.mem_cons.mp h with h | h
      · rw [h]; exact h2
      rw [List.mem_singleton.mp h]; exact h4
    · rcases List.mem_cons.mp h with h | h
      · rw [h]; exact h5
      · exact h
  exact ⟨hm, good_of_word (aW_good w hm)⟩
-- a bool as an int
def bI (b : Bool) : Int32 := if b then 1 else 0
theorem bI_t : bI true = 1 := rfl
theorem bI_f : bI false = 0 := rfl
theorem bI_nar (b : Bool) : narrow .boolean (.int (bI b)) = .int (bI b) := by cases b <;> rfl
theorem bI_vp (b : Bool) : vp_nar .boolean (bI b) = bI b := by cases b <;> rfl
theorem bI_eq0 (b : Bool) : bI b = 0 ↔ b = false := by cases b <;> decide
theorem bI_inj (a b : Bool) : bI a = bI b ↔ a = b := by cases a <;> cases b <;> decide
theorem bI_eq1 (b : Bool) : bI b = nI 1 ↔ b = true := by cases b <;> decide
theorem bI_ne0 {b : Bool} (h : ¬ bI b = 0) : b = true := by cases b with
  | true => rfl
  | false => exact absurd rfl h
theorem bI_ne1 {b : Bool} (h : ¬ bI b = nI 1) : b = false := by cases b with
  | true => exact absurd rfl h
  | false => rfl
theorem bI_fit (b : Bool) : fits .boolean (.int (bI b)) = true := by cases b <;> rfl
theorem hw_0 : nI 0 = bI false := rfl
theorem hw_1 : nI 1 = bI true := rfl
theorem hw_ret {v r : Int32} (h : v = r) : Outcome.returned (some (Value.int v)) = .returned (some (.int r)) := by rw [h]
theorem bI_upd (f : Nat → Bool) (k : Nat) (b : Bool) : upd (fun j => bI (f j)) k (bI b) = fun j => bI (va_up f k b j) := by
  funext j
  by_cases h : j = k <;> simp [upd, va_up, h]
-- numbers
theorem hw_inc (a : Nat) : nI a + Int32.ofInt 1 = nI (a + 1) := nI_1 a
theorem hw_dec (a : Nat) : nI (a + 1) + Int32.ofInt (-1) = nI a := pk_m1 a
theorem hw_cnt : ∀ n, n < 32 → ((nI n &&& 31).toBitVec.smod 32).toNat = n := by decide +kernel
theorem hw_shl {a d : Nat} (hd : d < 32) (h : a * 2 ^ d < 2 ^ 31) : nI a <<< (nI d &&& 31) = nI (a * 2 ^ d) := pk_shlN _ d (hw_cnt d hd) (by omega)
theorem hw_shl1 {d : Nat} (hd : d < 31) : nI 1 <<< (nI d &&& 31) = nI (2 ^ d) := by
  have h : 2 ^ d < 2 ^ 31 := Nat.pow_lt_pow_right (by decide) hd
  rw [hw_shl (by omega) (by omega), Nat.one_mul]
theorem hw_shl2 {d : Nat} (hd : d < 30) : nI 2 <<< (nI d &&& 31) = nI (2 * 2 ^ d) := by
  have h : 2 ^ d < 2 ^ 30 := Nat.pow_lt_pow_right (by decide) hd
  exact hw_shl (by omega) (by omega)
theorem hw_m1 (x : Int32) : x + Int32.ofInt (-1) = x - 1 := by
  rw [Int32.sub_eq_add_neg]
  rfl
theorem hw_le0 {n : Nat} (hn : n < 2 ^ 31) (h : nI n ≤ 0) : n = 0 := by
  apply Nat.eq_zero_of_not_pos
  intro h0
  exact nI_nle h0 hn h
theorem hw_nle0 {n : Nat} (h : ¬ nI n ≤ 0) : 0 < n := by
  apply Nat.pos_of_ne_zero
  intro h0
  subst h0
  exact h (by decide)
theorem hw_gt0 {n : Nat} (h : 0 < nI n) : 0 < n := by
  apply Nat.pos_of_ne_zero
  intro h0
  subst h0
  exact absurd h (by decide)
theorem hw_ngt0 {n : Nat} (hn : n < 2 ^ 31) (h : ¬ 0 < nI n) : n = 0 := by
  apply Nat.eq_zero_of_not_pos
  intro h0
  exact h (nI_lt h0 hn)
theorem hw_and (a b : Nat) : nI a &&& nI b = nI (a &&& b) := by
  apply Int32.toBitVec_inj.mp
  simp [nI, Int32.toBitVec_and]
theorem hw_or (a b : Nat) : nI a ||| nI b = nI (a ||| b) := by
  apply Int32.toBitVec_inj.mp
  simp [nI, Int32.toBitVec_or]
-- contracts of methods that change nothing
def rPre (av : List Value) (D : va_G) (ws : va_W) (tys : List (ClassId × FieldType)) : Array Value → State → Prop := va_Pc av (fun U => va_P D clS ws U.heap ∧ va_K D clS tys U ∧ nst U)
theorem rPre_blind {av : List Value} {D : va_G} {ws : va_W} {tys : List (ClassId × FieldType)} : FrameBlind (rPre av D ws tys) := fun a U g mk q => ⟨q.1, q.2.1, va_K.moved (u := U) (U := U.calling g mk a) (Vm.Alike.refl U.vm) q.2.2.1, va_Nw.same rfl rfl q.2.2.2⟩
theorem rPre_S {s : State} {H : Heap} {As : List Value} {D : va_G} {ws : va_W} {tys : List (ClassId × FieldType)} (hP : va_P D clS ws H) (hK : va_K D clS tys s) (hN : nst s) : PreS s H (rPre As D ws tys) As := ⟨rPre_blind, fun U hU hW => ⟨rfl, by rw [hU]; exact hP, va_K.moved hW.alike hK, va_Nw.warmM hW hN⟩⟩
theorem rPre_V {s : State} {H : Heap} {b ci : Nat} {C : String} {T : u_T} {N : Nat} {fs : List Value} {As : List Value} {D : va_G} {ws : va_W} {tys : List (ClassId × FieldType)} (q0 : Nat) (hP : va_P D clS ws H) (hK : va_K D clS tys s) (hN : nst s) (hc : clS[ci]? = some (C, T, N)) (he : ws[q0]? = some (b, .inr (ci, fs))) : PreV s H C b (rPre (.ref b :: As) D ws tys) As := ⟨rPre_blind, va_recv hK hP hc he, fun U hU hW => ⟨rfl, by rw [hU]; exact hP, va_K.moved hW.alike hK, va_Nw.warmM hW hN⟩⟩
-- contracts of methods that change cells of their world and make none
def wPre (av : List Value) (D : va_G) (ws : va_W) (tys : List (ClassId × FieldType)) (sz : Nat) : Array Value → State → Prop := va_Pc av (fun U => U.heap.size = sz ∧ va_P D clS ws U.heap ∧ va_K D clS tys U ∧ nst U ∧ va_D (fun _ => True) ws)
def wQ (o : Option Value) (D : va_G) (ws' : va_W) (A : Nat → Prop) : Array Value → State → Outcome → State → Prop := fun _ st oc t => oc = .returned o ∧ va_P D clS ws' t.heap ∧ va_F A st t
theorem wPre_blind {av : List Value} {D : va_G} {ws : va_W} {tys : List (ClassId × FieldType)} {sz : Nat} : FrameBlind (wPre av D ws tys sz) := fun a U g mk q => ⟨q.1, q.2.1, q.2.2.1, va_K.moved (u := U) (U := U.calling g mk a) (Vm.Alike.refl U.vm) q.2.2.2.1, va_Nw.same rfl rfl q.2.2.2.2.1, q.2.2.2.2.2⟩
theorem wPre_S {s : State} {H : Heap} {As : List Value} {D : va_G} {ws : va_W} {tys : List (ClassId × FieldType)} {A : Nat → Prop} (hP : va_P D clS ws H) (hD : va_D A ws) (hK : va_K D clS tys s) (hN : nst s) : PreS s H (wPre As D ws tys H.size) As := ⟨wPre_blind, fun U hU hW => ⟨rfl, by rw [hU], by rw [hU]; exact hP, va_K.moved hW.alike hK, va_Nw.warmM hW hN, hD.weaken (fun _ _ _ _ => trivial)⟩⟩
theorem wPre_V {s : State} {H : Heap} {b ci : Nat} {C : String} {T : u_T} {N : Nat} {fs : List Value} {As : List Value} {D : va_G} {ws : va_W} {tys : List (ClassId × FieldType)} {A : Nat → Prop} (q0 : Nat) (hP : va_P D clS ws H) (hD : va_D A ws) (hK : va_K D clS tys s) (hN : nst s) (hc : clS[ci]? = some (C, T, N)) (he : ws[q0]? = some (b, .inr (ci, fs))) : PreV s H C b (wPre (.ref b :: As) D ws tys H.size) As := ⟨wPre_blind, va_recv hK hP hc he, fun U hU hW => ⟨rfl, by rw [hU], by rw [hU]; exact hP, va_K.moved hW.alike hK, va_Nw.warmM hW hN, hD.weaken (fun _ _ _ _ => trivial)⟩⟩
/-- the cells' addresses alone say that they are apart -/
theorem hw_adr {A : Nat → Prop} {ws ws' : va_W} (h : ws'.map (fun q => q.1) = ws.map (fun q => q.1)) (hD : va_D A ws) : va_D A ws' := by
  have key : ∀ (k : Nat) (q : Nat × va_E), ws'[k]? = some q → ∃ q2, ws[k]? = some q2 ∧ q2.1 = q.1 := by
    intro k q hk
    have h1 : (ws'.map (fun q => q.1))[k]? = some q.1 := by rw [List.getElem?_map, hk]; rfl
    rw [h, List.getElem?_map] at h1
    cases h2 : ws[k]? with
    | none => rw [h2] at h1; cases h1
    | some q2 => rw [h2] at h1; exact ⟨q2, rfl, Option.some.inj h1⟩
  refine ⟨fun i j x y hi hj hxy => ?_, fun k q hk => ?_⟩
  · obtain ⟨p2, a1, a2⟩ := key i x hi
    obtain ⟨q2, b1, b2⟩ := key j y hj
    exact hD.1 i j p2 q2 a1 b1 (by rw [a2, b2, hxy])
  · obtain ⟨q2, b1, b2⟩ := key k q hk
    rw [← b2]
    exact hD.2 k q2 b1
theorem hw_ad {A : Nat → Prop} {ws ws' : va_W} (hD : va_D A ws) (h : ws'.map (fun q => q.1) = ws.map (fun q => q.1)) : va_D A ws' := hw_adr h hD
/-- an array's contents are told by what stands below its length -/
theorem hw_cg {D : va_G} {cl : List vw_C} {ws ws' : va_W} {H : Heap} {a n q0 : Nat} {cA : ClassId} {f : Nat → Int32} (hP : va_P D cl ws H) (g : Nat → Int32) (ha : ws[q0]? = some (a, .inl (cA, n, .inl f))) (hg : ∀ j, j < n → f j = g j) (hw : ws.set q0 (a, .inl (cA, n, .inl g)) = ws') : va_P D cl ws' H := by
  subst hw
  intro k q hk
  by_cases hkq : k = q0
  · subst hkq
    rw [List.getElem?_set_self (List.getElem?_eq_some_iff.mp ha).1] at hk
    cases hk
    have h1 := hP k _ ha
    show H[a]? = some (vp_cell cA (n, .inl g))
    have h2 : vp_cell cA (n, .inl f) = vp_cell cA (n, .inl g) := by
      rw [vp_cell_i, vp_cell_i]
      unfold arrV
      congr 1
      apply congrArg
      funext j
      show Value.int (f j.val) = Value.int (g j.val)
      rw [hg j.val j.isLt]
    rw [← h2]
    exact h1
  · rw [List.getElem?_set_ne (fun h => hkq h.symm)] at hk
    exact hP k q hk
theorem hw_cgz {D : va_G} {cl : List vw_C} {ws ws' : va_W} {H : Heap} {a n q0 : Nat} {cA : ClassId} {f : Nat → Bool} (hP : va_P D cl ws H) (g : Nat → Bool) (ha : ws[q0]? = some (a, .inl (cA, n, .inl (fun j => bI (f j))))) (hg : ∀ j, j < n → f j = g j) (hw : ws.set q0 (a, .inl (cA, n, .inl (fun j => bI (g j)))) = ws') : va_P D cl ws' H :=
  hw_cg hP (fun j => bI (g j)) ha (fun j hj => by rw [hg j hj]) hw
theorem hw_cgn {D : va_G} {cl : List vw_C} {ws ws' : va_W} {H : Heap} {a n q0 : Nat} {cA : ClassId} {f : Nat → Nat} (hP : va_P D cl ws H) (g : Nat → Nat) (ha : ws[q0]? = some (a, .inl (cA, n, .inl (fun j => nI (f j))))) (hg : ∀ j, j < n → f j = g j) (hw : ws.set q0 (a, .inl (cA, n, .inl (fun j => nI (g j)))) = ws') : va_P D cl ws' H :=
  hw_cg hP (fun j => nI (g j)) ha (fun j hj => by rw [hg j hj]) hw
theorem nI_upd (f : Nat → Nat) (k x : Nat) : upd (fun j => nI (f j)) k (nI x) = fun j => nI (va_up f k x j) := by
  funext j
  by_cases h : j = k <;> simp [upd, va_up, h]
/-- two class numbers of one array type are one -/
theorem hw_uq {D : va_G} {cl : List vw_C} {tys : List (ClassId × FieldType)} {U : State} (hK : va_K D cl tys U) {i j : Nat} {c1 c2 : ClassId} (hi : tys[i]? = some (c1, .int)) (hj : tys[j]? = some (c2, .int)) : c1 = c2 := by
  have a1 : U.vm.findClass ("[" ++ (FieldType.int).toString) = some c1 := (hK.2 i _ hi).2
  have a2 : U.vm.findClass ("[" ++ (FieldType.int).toString) = some c2 := (hK.2 j _ hj).2
  exact Option.some.inj (a1.symm.trans a2)
theorem hw_uqz {D : va_G} {cl : List vw_C} {tys : List (ClassId × FieldType)} {U : State} (hK : va_K D cl tys U) {i j : Nat} {c1 c2 : ClassId} (hi : tys[i]? = some (c1, .boolean)) (hj : tys[j]? = some (c2, .boolean)) : c1 = c2 := by
  have a1 : U.vm.findClass ("[" ++ (FieldType.boolean).toString) = some c1 := (hK.2 i _ hi).2
  have a2 : U.vm.findClass ("[" ++ (FieldType.boolean).toString) = some c2 := (hK.2 j _ hj).2
  exact Option.some.inj (a1.symm.trans a2)
section HW
variable {p : Program} {l : Launch} {e : Env} {R : Room} {s : State} {m : MethodId} {args : Array Value} {below : List Frame} {meth : Method} {c : Code} {H : Heap} {locs : List Loc} {cells slots : Nat} {Q : State → Prop}
variable {cc : ByteArray} {pc : Nat} {ls : Array Slot} {rest : List Value} {D : va_G} {cl : List vw_C} {A : Nat → Prop} {a : Nat} {tys : List (ClassId × FieldType)} {ws : va_W} {H0 : Heap}
theorem lv_nm {x y : Int32} (h : x = y) (k : W p l e R s m args below meth c H locs cells slots Q (F0 m pc ls (.int y :: rest))) : W p l e R s m args below meth c H locs cells slots Q (F0 m pc ls (.int x :: rest)) := by
  rw [h]; exact k
theorem na_iald (hexec : p.tables.exec = Jvm.exec) (hb : c.code = cc) (hK : va_K D cl tys s) (hP : va_P D cl ws H) (q0 t0 : Nat) {cA : ClassId} {n : Nat} {f : Nat → Int32} (ha : ws[q0]? = some (a, .inl (cA, n, .inl f))) (ht : tys[t0]? = some (cA, .int)) {j : Nat} (hj : j < n) (hn : n < 2 ^ 31) (hdg : decode cc pc = .ok (.iaload, 1))
    (kk : W p l e R s m args below meth c H locs cells slots Q (F0 m (pc + 1) ls (.int (f j) :: rest))) : W p l e R s m args below meth c H locs cells slots Q (F0 m pc ls (.int (nI j) :: .ref a :: rest)) := by
  refine va_iald hexec hb hK hP q0 t0 ha ht (vp_in_nI hj hn) hdg ?_
  rw [nI_clamp (by omega)]; exact kk
theorem na_zald (hexec : p.tables.exec = Jvm.exec) (hb : c.code = cc) (hK : va_K D cl tys s) (hP : va_P D cl ws H) (q0 t0 : Nat) {cA : ClassId} {n : Nat} {f : Nat → Bool} (ha : ws[q0]? = some (a, .inl (cA, n, .inl (fun j => bI (f j))))) (ht : tys[t0]? = some (cA, .boolean)) {j : Nat} (hj : j < n) (hn : n < 2 ^ 31) (hdg : decode cc pc = .ok (.baload, 1))
    (kk : W p l e R s m args below meth c H locs cells slots Q (F0 m (pc + 1) ls (.int (bI (f j)) :: rest))) : W p l e R s m args below meth c H locs cells slots Q (F0 m pc ls (.int (nI j) :: .ref a :: rest)) := by
  refine va_zald hexec hb hK hP q0 t0 ha ht (vp_in_nI hj hn) hdg ?_
  rw [nI_clamp (by omega)]; exact kk
theorem na_nald (hexec : p.tables.exec = Jvm.exec) (hb : c.code = cc) (hK : va_K D cl tys s) (hP : va_P D cl ws H) (q0 t0 : Nat) {cA : ClassId} {n : Nat} {f : Nat → Nat} (ha : ws[q0]? = some (a, .inl (cA, n, .inl (fun j => nI (f j))))) (ht : tys[t0]? = some (cA, .int)) {j : Nat} (hj : j < n) (hn : n < 2 ^ 31) (hdg : decode cc pc = .ok (.iaload, 1))
    (kk : W p l e R s m args below meth c H locs cells slots Q (F0 m (pc + 1) ls (.int (nI (f j)) :: rest))) : W p l e R s m args below meth c H locs cells slots Q (F0 m pc ls (.int (nI j) :: .ref a :: rest)) := by
  refine va_iald hexec hb hK hP q0 t0 ha ht (vp_in_nI hj hn) hdg ?_
  rw [nI_clamp (by omega)]; exact kk
theorem na_iast (hexec : p.tables.exec = Jvm.exec) (hb : c.code = cc) (hK : va_K D cl tys s) (hP : va_P D cl ws H) (hD : va_D A ws) (hS : va_S A H0 H locs) (q0 t0 : Nat) {cA : ClassId} {n : Nat} {f : Nat → Int32} (ha : ws[q0]? = some (a, .inl (cA, n, .inl f))) (ht : tys[t0]? = some (cA, .int)) {j : Nat} {x : Int32} (hj : j < n) (hn : n < 2 ^ 31) (hdg : decode cc pc = .ok (.iastore, 1))
    (kk : ∀ (H1 : Heap) (locs1 : List Loc), va_P D cl (ws.set q0 (a, .inl (cA, n, .inl (upd f j x)))) H1 → va_D A (ws.set q0 (a, .inl (cA, n, .inl (upd f j x)))) → va_S A H0 H1 locs1 → W p l e R s m args below meth c H1 locs1 cells slots Q (F0 m (pc + 1) ls rest)) : W p l e R s m args below meth c H locs cells slots Q (F0 m pc ls (.int x :: .int (nI j) :: .ref a :: rest)) := by
  refine va_iast hexec hb hK hP hD hS q0 t0 ha ht (vp_in_nI hj hn) hdg ?_
  rw [nI_clamp (by omega)]; exact kk
theorem na_zast (hexec : p.tables.exec = Jvm.exec) (hb : c.code = cc) (hK : va_K D cl tys s) (hP : va_P D cl ws H) (hD : va_D A ws) (hS : va_S A H0 H locs) (q0 t0 : Nat) {cA : ClassId} {n : Nat} {f : Nat → Bool} (ha : ws[q0]? = some (a, .inl (cA, n, .inl (fun j => bI (f j))))) (ht : tys[t0]? = some (cA, .boolean)) {j : Nat} {b : Bool} (hj : j < n) (hn : n < 2 ^ 31) (hdg : decode cc pc = .ok (.bastore, 1))
    (kk : ∀ (H1 : Heap) (locs1 : List Loc), va_P D cl (ws.set q0 (a, .inl (cA, n, .inl (fun i => bI (va_up f j b i))))) H1 → va_D A (ws.set q0 (a, .inl (cA, n, .inl (fun i => bI (va_up f j b i))))) → va_S A H0 H1 locs1 → W p l e R s m args below meth c H1 locs1 cells slots Q (F0 m (pc + 1) ls rest)) : W p l e R s m args below meth c H locs cells slots Q (F0 m pc ls (.int (bI b) :: .int (nI j) :: .ref a :: rest)) := by
  refine va_zast hexec hb hK hP hD hS q0 t0 ha ht (vp_in_nI hj hn) hdg ?_
  rw [nI_clamp (by omega), bI_vp, bI_upd]; exact kk
theorem na_nast (hexec : p.tables.exec = Jvm.exec) (hb : c.code = cc) (hK : va_K D cl tys s) (hP : va_P D cl ws H) (hD : va_D A ws) (hS : va_S A H0 H locs) (q0 t0 : Nat) {cA : ClassId} {n : Nat} {f : Nat → Nat} (ha : ws[q0]? = some (a, .inl (cA, n, .inl (fun j => nI (f j))))) (ht : tys[t0]? = some (cA, .int)) {j x : Nat} (hj : j < n) (hn : n < 2 ^ 31) (hdg : decode cc pc = .ok (.iastore, 1))
    (kk : ∀ (H1 : Heap) (locs1 : List Loc), va_P D cl (ws.set q0 (a, .inl (cA, n, .inl (fun i => nI (va_up f j x i))))) H1 → va_D A (ws.set q0 (a, .inl (cA, n, .inl (fun i => nI (va_up f j x i))))) → va_S A H0 H1 locs1 → W p l e R s m args below meth c H1 locs1 cells slots Q (F0 m (pc + 1) ls rest)) : W p l e R s m args below meth c H locs cells slots Q (F0 m pc ls (.int (nI x) :: .int (nI j) :: .ref a :: rest)) := by
  refine va_iast hexec hb hK hP hD hS q0 t0 ha ht (vp_in_nI hj hn) hdg ?_
  rw [nI_clamp (by omega), nI_upd]; exact kk
theorem hw_cr {g : JFrame} {mc ms : Nat} {Qa : State → Outcome → State → Prop} {free : Addr → Prop} (h : va_Run p l e R s m args below meth c H locs cells slots mc ms g rest Qa free) : CallRun p l e R s m args below meth c H locs cells slots mc ms g rest Qa free := by
  intro T hT X
  obtain ⟨v, st, t, T', L, h0, X', hL, e1, e2, hq, hg⟩ := h T hT X
  exact ⟨v, st, t, T', L, h0, X', hL, e1, hq, hg⟩
/-- a call that changes nothing -/
theorem hw_callR {r : Int32} {st0 : List Value} {av : Array Value} (hr : va_Run p l e R s m args below meth c H locs cells slots 0 0 (F0 m pc ls st0) rest (QcRead r av) (fun _ => False)) (kk : W p l e R s m args below meth c H locs cells slots Q (F0 m (pc + 3) ls (.int r :: rest))) : W p l e R s m args below meth c H locs cells slots Q (F0 m pc ls st0) := W.callR (hw_cr hr) kk
/-- a call that changes cells of the whole world -/
theorem hw_callW {o : Option Value} {ws' : va_W} {st0 : List Value} {av : Array Value} (hr : va_Run p l e R s m args below meth c H locs cells slots 0 0 (F0 m pc ls st0) rest (wQ o D ws' (va_A ws H.size) av) (va_A ws H.size)) (hD : va_D A ws) (hS : va_S A H0 H locs) (hA : ∀ q, H0.size ≤ q → A q) (hadr : ws'.map (fun q => q.1) = ws.map (fun q => q.1))
    (kk : ∀ (H1 : Heap) (locs1 : List Loc), va_P D clS ws' H1 → va_D A ws' → va_S A H0 H1 locs1 → W p l e R s m args below meth c H1 locs1 cells slots Q (F0 m (pc + 3) ls (o.toList ++ rest))) : W p l e R s m args below meth c H locs cells slots Q (F0 m pc ls st0) := by
  have hF : ∀ q, va_A ws H.size q → A q := by
    intro q h
    rcases h with ⟨k, e9, h⟩ | h
    · exact hD.2 k (q, e9) h
    · exact hA q (Nat.le_trans hS.1 h)
  intro T hT X
  obtain ⟨v, st, t, T', L, h0, X', hL, e1, e2, ⟨hv, hP1, hz, hk⟩, hg⟩ := hr T hT X
  cases hv
  rw [h0] at hz hk
  obtain ⟨t2, a1, b1⟩ := kk T'.heap (locs ++ L) (by rw [e1]; exact hP1) (hw_adr hadr hD)
    ⟨Nat.le_trans hS.1 (by rw [e1]; exact hz), fun q h1 h2 => by rw [e1, hk q (Nat.lt_of_lt_of_le h1 hS.1) (fun z => h2 (hF q z))]; exact hS.2.1 q h1 h2, fun q hq => by
      rcases List.mem_append.mp hq with h | h
      · exact hS.2.2 q h
      · exact hF _ (hL q h)⟩ T' rfl X'
  exact ⟨t2, hg t2 a1, b1⟩
/-- a call that changes cells of a part of the world: isC the callee's places, isR the others', pm the order behind it -/
theorem hw_call {o : Option Value} {wc wc' wr ws' : va_W} {st0 : List Value} {av : Array Value} (hr : va_Run p l e R s m args below meth c H locs cells slots 0 0 (F0 m pc ls st0) rest (wQ o D wc' (va_A wc H.size) av) (va_A wc H.size)) (hP : va_P D clS ws H) (hD : va_D A ws) (hS : va_S A H0 H locs) (hA : ∀ q, H0.size ≤ q → A q)
    (isC isR pm : List Nat) (hC : isC.map (fun i => ws[i]?) = wc.map some) (hR : isR.map (fun i => ws[i]?) = wr.map some) (hnC : va_nd isC = true) (hnR : va_nd isR = true) (hdis : ∀ i ∈ isR, i ∉ isC) (hc' : wc'.map (fun q => q.1) = wc.map (fun q => q.1)) (hpm : pm.filterMap (fun i => (wr ++ wc')[i]?) = ws') (hadr : ws'.map (fun q => q.1) = ws.map (fun q => q.1))
    (kk : ∀ (H1 : Heap) (locs1 : List Loc), va_P D clS ws' H1 → va_D A ws' → va_S A H0 H1 locs1 → W p l e R s m args below meth c H1 locs1 cells slots Q (F0 m (pc + 3) ls (o.toList ++ rest))) : W p l e R s m args below meth c H locs cells slots Q (F0 m pc ls st0) := by
  have hF := va_free (wc := wc) hD hS hA isC hC
  intro T hT X
  obtain ⟨v, st, t, T', L, h0, X', hL, e1, e2, ⟨hv, hP1, hz, hk⟩, hg⟩ := hr T hT X
  cases hv
  rw [h0] at hz hk
  have hD1 : va_D (va_A wc H.size) wc' := hw_adr hc' (hD.sub isC hnC hC).self
  have hj := va_join (wr := wr) (w1 := wc') (H1 := T'.heap) hP hD isC isR hC hR hnR hdis (fun q h1 h2 => by rw [e1]; exact hk q h1 h2) hF (by rw [e1]; exact hP1) hD1
  obtain ⟨t2, a1, b1⟩ := kk T'.heap (locs ++ L) (hj.1.sub pm hpm) (hw_adr hadr hD)
    ⟨Nat.le_trans hS.1 (by rw [e1]; exact hz), fun q h1 h2 => by rw [e1, hk q (Nat.lt_of_lt_of_le h1 hS.1) (fun z => h2 (hF q z))]; exact hS.2.1 q h1 h2, fun q hq => by
      rcases List.mem_append.mp hq with h | h
      · exact hS.2.2 q h
      · exact hF _ (hL q h)⟩ T' rfl X'
  exact ⟨t2, hg t2 a1, b1⟩
end HW
end
section
/-! Numbers: the bits of an int as a number; shifts and masks; ranges. -/
/-- the bits of an int as a number -/
def uN (x : Int32) : Nat := x.toBitVec.toNat
theorem uN_lt (x : Int32) : uN x < 2 ^ 32 := x.toBitVec.isLt
theorem uN_nI {n : Nat} (h : n < 2 ^ 32) : uN (nI n) = n := pk_tn h
theorem nI_uN (x : Int32) : nI (uN x) = x := by
  apply Int32.toBitVec_inj.mp
  apply BitVec.eq_of_toNat_eq
  exact pk_tn (uN_lt x)
theorem uN_inj {x y : Int32} (h : uN x = uN y) : x = y := by rw [← nI_uN x, ← nI_uN y, h]
theorem uN_or (x y : Int32) : uN (x ||| y) = uN x ||| uN y := by
  unfold uN
  rw [Int32.toBitVec_or, BitVec.toNat_or]
theorem uN_and (x y : Int32) : uN (x &&& y) = uN x &&& uN y := by
  unfold uN
  rw [Int32.toBitVec_and, BitVec.toNat_and]
theorem uN_0 : uN 0 = 0 := rfl
theorem nI_z {q : Nat} (h : q < 2 ^ 32) : nI q = 0 ↔ q = 0 := by
  constructor
  · intro e
    have e2 := congrArg uN e
    rw [uN_nI h] at e2
    exact e2
  · intro e
    subst e
    rfl
theorem nI_i {a b : Nat} (ha : a < 2 ^ 32) (hb : b < 2 ^ 32) (e : nI a = nI b) : a = b := by
  have e2 := congrArg uN e
  rwa [uN_nI ha, uN_nI hb] at e2
/-- in a range -/
theorem hw_in {x : Int32} {n : Nat} (hn : n < 2 ^ 31) (h0 : ¬ x < 0) (h1 : ¬ nI n ≤ x) : uN x < n := by
  obtain ⟨j, hj, rfl⟩ := nI_of h0
  rw [uN_nI (by omega)]
  rw [nI_leI hn hj] at h1
  omega
theorem hw_neg {x : Int32} (h : x < 0) : 2 ^ 31 ≤ uN x := by
  apply Nat.le_of_not_lt
  intro h1
  rw [← nI_uN x] at h
  exact nI_pos h1 h
theorem hw_big {x : Int32} {n : Nat} (hn : n < 2 ^ 31) (h : nI n ≤ x) : ¬ uN x < n := by
  intro h1
  rw [← nI_uN x] at h
  exact nI_ge h1 hn h
theorem hw_pos {x : Int32} {n : Nat} (hn : n < 2 ^ 31) (h : uN x < n) : ¬ x < 0 ∧ x < nI n := by
  rw [← nI_uN x]
  exact ⟨nI_pos (by omega), nI_lt h hn⟩
-- shifts and bits
theorem hw_uc : ∀ d, d < 32 → (((nI d).toUInt32 &&& Int32.toUInt32 31).toBitVec % 32).toNat = d := by decide +kernel
theorem hw_ushr (x : Int32) {d : Nat} (hd : d < 32) : (x.toUInt32 >>> ((nI d).toUInt32 &&& Int32.toUInt32 31)).toInt32 = nI (uN x / 2 ^ d) := by
  apply uN_inj
  rw [uN_nI (Nat.lt_of_le_of_lt (Nat.div_le_self _ _) (uN_lt x))]
  exact pk_ushr x (nI d) d (hw_uc d hd)
theorem bI_nI (b : Bool) : bI b = nI b.toNat := by cases b <;> rfl
theorem hw_tb (x d : Nat) : nI (x / 2 ^ d % 2) = bI (x.testBit d) := by
  rw [bI_nI, Nat.toNat_testBit]
/-- bit d by >>> -/
theorem hw_ubit (x : Int32) {d : Nat} (hd : d < 32) : (x.toUInt32 >>> ((nI d).toUInt32 &&& Int32.toUInt32 31)).toInt32 &&& nI 1 = bI ((uN x).testBit d) := by
  rw [hw_ushr x hd, pk_andN (Nat.lt_of_le_of_lt (Nat.div_le_self _ _) (uN_lt x)) (m := nI 1) 1 (by decide), ← hw_tb]
/-- bit d by >> -/
theorem hw_sbit (x : Int32) {d : Nat} (hd : d < 32) : (x >>> (nI d &&& 31)) &&& nI 1 = bI ((uN x).testBit d) := by
  rw [pk_and (x >>> (nI d &&& 31)) (m := nI 1) 1 (by decide)]
  have h1 : (x >>> (nI d &&& 31)).toBitVec = x.toBitVec.sshiftRight d := by
    rw [Int32.toBitVec_shiftRight, BitVec.sshiftRight', hw_cnt d hd]
  rw [h1]
  have h2 : (x.toBitVec.sshiftRight d).toNat.testBit 0 = (uN x).testBit d := by
    show (x.toBitVec.sshiftRight d).getLsbD 0 = x.toBitVec.getLsbD d
    rw [BitVec.getLsbD_sshiftRight]
    simp [hd]
  rw [bI_nI, ← h2, Nat.toNat_testBit]
  simp
theorem hw_shr {a d : Nat} (ha : a < 2 ^ 31) (hd : d < 32) : nI a >>> (nI d &&& 31) = nI (a / 2 ^ d) := pk_shrN ha _ d (hw_cnt d hd)
theorem hw_bshl (b : Bool) {d : Nat} (hd : d < 32) : bI b <<< (nI d &&& 31) = nI (b.toNat * 2 ^ d) := by
  rw [bI_nI]
  have h : 2 ^ d ≤ 2 ^ 31 := Nat.pow_le_pow_right (by decide) (by omega)
  exact pk_shlN _ d (hw_cnt d hd) (by cases b <;> simp <;> omega)
/-- 2^d by a shift, d up to 31 -/
theorem hw_shl1' {d : Nat} (hd : d < 32) : nI 1 <<< (nI d &&& 31) = nI (2 ^ d) := by
  have h := hw_bshl true hd
  rw [bI_nI] at h
  simpa using h
/-- both are sets of n variables -/
theorem hw_sets {x y n : Nat} : (x ||| y) / 2 ^ n = 0 ↔ x < 2 ^ n ∧ y < 2 ^ n := by
  rw [Nat.div_eq_zero_iff_lt (Nat.two_pow_pos n)]
  constructor
  · intro h
    refine ⟨Nat.lt_of_le_of_lt Nat.left_le_or h, ?_⟩
    rw [Nat.or_comm] at h
    exact Nat.lt_of_le_of_lt Nat.left_le_or h
  · intro h
    exact Nat.or_lt_two_pow h.1 h.2
/-- a number or a bit that it hasn't -/
theorem hw_orb {x d : Nat} (h : x.testBit d = false) (b : Bool) : x ||| b.toNat * 2 ^ d = x + b.toNat * 2 ^ d := by
  cases b with
  | false => simp
  | true =>
    show x ||| 1 * 2 ^ d = x + 1 * 2 ^ d
    rw [Nat.one_mul]
    have e : x = 2 ^ (d + 1) * (x / 2 ^ (d + 1)) + x % 2 ^ d := by
      have h1 := Nat.div_add_mod x (2 ^ (d + 1))
      have h2 : x % 2 ^ (d + 1) = x % 2 ^ d := by
        rw [Nat.mod_pow_succ, ← Nat.toNat_testBit, h]
        simp
      rw [h2] at h1
      exact h1.symm
    have hr : x % 2 ^ d < 2 ^ d := Nat.mod_lt _ (Nat.two_pow_pos d)
    generalize x % 2 ^ d = r at e hr
    generalize x / 2 ^ (d + 1) = q at e
    subst e
    have hp : 2 ^ (d + 1) = 2 ^ d + 2 ^ d := Nat.two_pow_succ d
    rw [Nat.two_pow_add_eq_or_of_lt (by omega), Nat.or_assoc, Nat.or_two_pow_eq_add_of_lt hr, ← Nat.two_pow_add_eq_or_of_lt (by omega), ← Nat.two_pow_add_eq_or_of_lt (by omega)]
    omega
theorem bI_le (b : Bool) : b.toNat ≤ 1 := by cases b <;> decide
end
section
/-! The game, as numbers: who wins, the positions of the reference, lines of values. Nothing of the machine. -/
def sd_C (a x y : Bool) : Bool := if a = true then (x && y) else (x || y)
/-- Eve wins: k variables are left, d are set, v their values -/
def sd_R (A : Nat) (S : Nat → Bool) : Nat → Nat → Nat → Bool
  | 0, _, v => S v
  | k + 1, d, v => sd_C (A.testBit d) (sd_R A S k (d + 1) v) (sd_R A S k (d + 1) (v + 2 ^ d))
def sd_E (n A : Nat) (S : Nat → Bool) (d v : Nat) : Bool := sd_R A S (n - d) d v
theorem sd_E_n (n A : Nat) (S : Nat → Bool) (v : Nat) : sd_E n A S n v = S v := by
  unfold sd_E
  rw [Nat.sub_self]
  rfl
theorem sd_E_s {n A : Nat} {S : Nat → Bool} {d : Nat} (v : Nat) (h : d < n) : sd_E n A S d v = sd_C (A.testBit d) (sd_E n A S (d + 1) v) (sd_E n A S (d + 1) (v + 2 ^ d)) := by
  unfold sd_E
  rw [show n - d = (n - (d + 1)) + 1 by omega]
  rfl
theorem sd_R_cg {A : Nat} {S S' : Nat → Bool} : ∀ (k d v : Nat), (∀ w, w < 2 ^ (d + k) → S w = S' w) → v < 2 ^ d → sd_R A S k d v = sd_R A S' k d v
  | 0, d, v, h, hv => h v hv
  | k + 1, d, v, h, hv => by
    have h2 : 2 ^ (d + 1) = 2 ^ d + 2 ^ d := Nat.two_pow_succ d
    have h' : ∀ w, w < 2 ^ (d + 1 + k) → S w = S' w := fun w hw => h w (by rw [show d + (k + 1) = d + 1 + k by omega]; exact hw)
    show sd_C _ _ _ = sd_C _ _ _
    rw [sd_R_cg k (d + 1) v h' (by omega), sd_R_cg k (d + 1) (v + 2 ^ d) h' (by omega)]
theorem sd_E_cg {n A d v : Nat} {S S' : Nat → Bool} (h : ∀ w, w < 2 ^ n → S w = S' w) (hd : d ≤ n) (hv : v < 2 ^ d) : sd_E n A S d v = sd_E n A S' d v :=
  sd_R_cg _ _ _ (by rw [show d + (n - d) = n by omega]; exact h) hv
/-- the class's row of winners, by 2^d + v -/
def sd_ew (n A : Nat) (S : Nat → Bool) (j : Nat) : Bool := if j = 0 then false else sd_E n A S (Nat.log2 j) (j - 2 ^ Nat.log2 j)
theorem sd_log {d v : Nat} (h : v < 2 ^ d) : Nat.log2 (2 ^ d + v) = d := by
  have h0 := Nat.two_pow_pos d
  exact (Nat.log2_eq_iff (by omega)).mpr ⟨by omega, by rw [Nat.two_pow_succ]; omega⟩
theorem sd_ew_at {n A : Nat} {S : Nat → Bool} {d v : Nat} (h : v < 2 ^ d) : sd_ew n A S (2 ^ d + v) = sd_E n A S d v := by
  have h0 := Nat.two_pow_pos d
  unfold sd_ew
  rw [if_neg (by omega), sd_log h, Nat.add_sub_cancel_left]
theorem sd_split {n j : Nat} (h0 : j ≠ 0) (h : j < 2 * 2 ^ n) : ∃ d v, d ≤ n ∧ v < 2 ^ d ∧ j = 2 ^ d + v := by
  have h1 := Nat.log2_self_le h0
  have h2 := @Nat.lt_log2_self j
  rw [Nat.two_pow_succ] at h2
  refine ⟨Nat.log2 j, j - 2 ^ Nat.log2 j, ?_, by omega, by omega⟩
  have h3 := (Nat.log2_lt (k := n + 1) h0).mpr (by rw [Nat.two_pow_succ]; omega)
  omega
theorem sd_ew_cg {n A : Nat} {S S' : Nat → Bool} (h : ∀ w, w < 2 ^ n → S w = S' w) {j : Nat} (hj : j < 2 * 2 ^ n) : sd_ew n A S j = sd_ew n A S' j := by
  by_cases h0 : j = 0
  · subst h0
    rfl
  · obtain ⟨d, v, h1, h2, rfl⟩ := sd_split h0 hj
    rw [sd_ew_at h2, sd_ew_at h2, sd_E_cg h h1 h2]
/-- the reference's position behind the first d values of v -/
def sd_pos : Nat → Nat → Nat
  | 0, _ => 1
  | d + 1, v => 2 * sd_pos d v + (v.testBit d).toNat
theorem sd_pos_b (d v : Nat) : 2 ^ d ≤ sd_pos d v ∧ sd_pos d v < 2 * 2 ^ d := by
  induction d with
  | zero => exact ⟨Nat.le_refl 1, show 1 < 2 * 2 ^ 0 by decide⟩
  | succ d ih =>
    have h1 := bI_le (v.testBit d)
    have h2 := Nat.two_pow_succ d
    show 2 ^ (d + 1) ≤ 2 * sd_pos d v + (v.testBit d).toNat ∧ 2 * sd_pos d v + (v.testBit d).toNat < 2 * 2 ^ (d + 1)
    omega
theorem sd_pos_cg {v w : Nat} : ∀ d, (∀ i, i < d → v.testBit i = w.testBit i) → sd_pos d v = sd_pos d w
  | 0, _ => rfl
  | d + 1, h => by
    show 2 * sd_pos d v + (v.testBit d).toNat = 2 * sd_pos d w + (w.testBit d).toNat
    rw [sd_pos_cg d (fun i hi => h i (by omega)), h d (by omega)]
theorem sd_pos_0 {d v : Nat} (h : v < 2 ^ d) : sd_pos (d + 1) v = 2 * sd_pos d v := by
  show 2 * sd_pos d v + (v.testBit d).toNat = _
  rw [Nat.testBit_lt_two_pow h]
  rfl
theorem sd_pos_1 {d v : Nat} (h : v < 2 ^ d) : sd_pos (d + 1) (v + 2 ^ d) = 2 * sd_pos d v + 1 := by
  show 2 * sd_pos d (v + 2 ^ d) + ((v + 2 ^ d).testBit d).toNat = _
  rw [Nat.add_comm v, sd_pos_cg d (fun i hi => Nat.testBit_two_pow_add_gt hi v), Nat.testBit_two_pow_add_eq, Nat.testBit_lt_two_pow h]
  rfl
theorem sd_pos_dv (d v : Nat) : ∀ i, sd_pos (d + i) v / 2 ^ i = sd_pos d v
  | 0 => Nat.div_one _
  | i + 1 => by
    have h1 : sd_pos (d + i + 1) v / 2 = sd_pos (d + i) v := by
      have h2 := bI_le (v.testBit (d + i))
      show (2 * sd_pos (d + i) v + (v.testBit (d + i)).toNat) / 2 = _
      omega
    rw [Nat.pow_succ', ← Nat.div_div_eq_div_mul]
    show sd_pos (d + i + 1) v / 2 / 2 ^ i = _
    rw [h1]
    exact sd_pos_dv d v i
theorem sd_pos_tb {n k : Nat} (v : Nat) (h : k < n) : (sd_pos n v).testBit (n - 1 - k) = v.testBit k := by
  have h1 := sd_pos_dv (k + 1) v (n - 1 - k)
  rw [show k + 1 + (n - 1 - k) = n by omega] at h1
  have h2 := Nat.testBit_div_two_pow (n := n - 1 - k) (sd_pos n v) 0
  rw [Nat.zero_add, h1, Nat.testBit_zero] at h2
  rw [← h2]
  show decide ((2 * sd_pos k v + (v.testBit k).toNat) % 2 = 1) = v.testBit k
  cases v.testBit k
  · exact decide_eq_false (by show ¬ (2 * sd_pos k v + 0) % 2 = 1; omega)
  · exact decide_eq_true (by show (2 * sd_pos k v + 1) % 2 = 1; omega)
/-- the values that the reference reads off an end, after k steps -/
def sd_on (n e : Nat) : Nat → Nat
  | 0 => 0
  | k + 1 => sd_on n e k + (e.testBit (n - 1 - k)).toNat * 2 ^ k
theorem sd_on_lt (n e : Nat) : ∀ k, sd_on n e k < 2 ^ k
  | 0 => by show 0 < 1; decide
  | k + 1 => by
    have h1 := sd_on_lt n e k
    have h2 := Nat.two_pow_succ k
    show sd_on n e k + (e.testBit (n - 1 - k)).toNat * 2 ^ k < 2 ^ (k + 1)
    cases e.testBit (n - 1 - k)
    · show sd_on n e k + 0 * 2 ^ k < _; omega
    · show sd_on n e k + 1 * 2 ^ k < _; omega
theorem sd_on_pos {n v : Nat} : ∀ k, k ≤ n → sd_on n (sd_pos n v) k = v % 2 ^ k
  | 0, _ => (Nat.mod_one v).symm
  | k + 1, h => by
    show sd_on n (sd_pos n v) k + ((sd_pos n v).testBit (n - 1 - k)).toNat * 2 ^ k = _
    rw [sd_on_pos k (by omega), sd_pos_tb v (by omega), Nat.toNat_testBit, Nat.mod_pow_succ, Nat.mul_comm (2 ^ k)]
/-- the reference's winner: k variables left, at position j -/
def sd_M (n A : Nat) (S : Nat → Bool) : Nat → Nat → Bool
  | 0, j => S (sd_on n j n)
  | k + 1, j => sd_C (A.testBit (n - 1 - k)) (sd_M n A S k (2 * j)) (sd_M n A S k (2 * j + 1))
theorem sd_M_R {n A : Nat} {S : Nat → Bool} : ∀ k v, k ≤ n → v < 2 ^ (n - k) → sd_M n A S k (sd_pos (n - k) v) = sd_R A S k (n - k) v
  | 0, v, _, hv => by
    show S (sd_on n (sd_pos n v) n) = S v
    rw [sd_on_pos n (Nat.le_refl n), Nat.mod_eq_of_lt (show v < 2 ^ n from hv)]
  | k + 1, v, h, hv => by
    have h1 := sd_M_R (n := n) (A := A) (S := S) k v (by omega)
    have h2 := sd_M_R (n := n) (A := A) (S := S) k (v + 2 ^ (n - (k + 1))) (by omega)
    have e2 : n - 1 - k = n - (k + 1) := by omega
    have e1 : n - k = n - (k + 1) + 1 := by omega
    rw [e1] at h1 h2
    generalize n - (k + 1) = d at hv h1 h2 e2 ⊢
    have hp := Nat.two_pow_succ d
    have h1 := h1 (by omega)
    have h2 := h2 (by omega)
    rw [sd_pos_0 hv] at h1
    rw [sd_pos_1 hv] at h2
    show sd_C (A.testBit (n - 1 - k)) (sd_M n A S k (2 * sd_pos d v)) (sd_M n A S k (2 * sd_pos d v + 1)) = sd_C (A.testBit d) (sd_R A S k (d + 1) v) (sd_R A S k (d + 1) (v + 2 ^ d))
    rw [e2, h1, h2]
/-- the reference's row of winners -/
def sd_wn (n A : Nat) (S : Nat → Bool) (j : Nat) : Bool := if j = 0 ∨ 2 * 2 ^ n ≤ j then false else sd_M n A S (n - Nat.log2 j) j
theorem sd_lg {v j : Nat} (h1 : 2 ^ v ≤ j) (h2 : j < 2 * 2 ^ v) : Nat.log2 j = v := by
  have h0 := Nat.two_pow_pos v
  exact (Nat.log2_eq_iff (by omega)).mpr ⟨h1, by rw [Nat.two_pow_succ]; omega⟩
theorem sd_wn_in {n A : Nat} {S : Nat → Bool} {v j : Nat} (hv : v ≤ n) (h1 : 2 ^ v ≤ j) (h2 : j < 2 * 2 ^ v) : sd_wn n A S j = sd_M n A S (n - v) j := by
  have h0 := Nat.two_pow_pos v
  have h3 : 2 ^ v ≤ 2 ^ n := Nat.pow_le_pow_right (by decide) hv
  unfold sd_wn
  rw [if_neg (by omega), sd_lg h1 h2]
theorem sd_wn_at {n A : Nat} {S : Nat → Bool} {d v : Nat} (hd : d ≤ n) (hv : v < 2 ^ d) : sd_wn n A S (sd_pos d v) = sd_E n A S d v := by
  have hb := sd_pos_b d v
  have h1 := sd_M_R (n := n) (A := A) (S := S) (n - d) v (by omega)
  rw [show n - (n - d) = d by omega] at h1
  rw [sd_wn_in hd hb.1 hb.2, h1 hv]
  rfl
theorem sd_wn_leaf {n A : Nat} {S : Nat → Bool} {j : Nat} (h1 : 2 ^ n ≤ j) (h2 : j < 2 * 2 ^ n) : sd_wn n A S j = S (sd_on n j n) := by
  rw [sd_wn_in (Nat.le_refl n) h1 h2, Nat.sub_self]
  rfl
theorem sd_wn_node {n A : Nat} {S : Nat → Bool} {v j : Nat} (hv : v < n) (h1 : 2 ^ v ≤ j) (h2 : j < 2 * 2 ^ v) : sd_wn n A S j = sd_C (A.testBit v) (sd_wn n A S (2 * j)) (sd_wn n A S (2 * j + 1)) := by
  have hp := Nat.two_pow_succ v
  rw [sd_wn_in (Nat.le_of_lt hv) h1 h2, sd_wn_in (v := v + 1) hv (by omega) (by omega), sd_wn_in (v := v + 1) hv (by omega) (by omega)]
  rw [show n - v = (n - (v + 1)) + 1 by omega]
  show sd_C (A.testBit (n - 1 - (n - (v + 1)))) _ _ = _
  rw [show n - 1 - (n - (v + 1)) = v by omega]
/-- how many of Adam's variables stand before v -/
def sd_ct (A : Nat) : Nat → Nat
  | 0 => 0
  | v + 1 => sd_ct A v + (A.testBit v).toNat
theorem sd_ct_mono (A : Nat) {v w : Nat} (h : v ≤ w) : sd_ct A v ≤ sd_ct A w := by
  induction h with
  | refl => exact Nat.le_refl _
  | step _ ih => exact Nat.le_trans ih (Nat.le_add_right _ _)
theorem sd_ct_le (A : Nat) : ∀ v, sd_ct A v ≤ v
  | 0 => Nat.le_refl 0
  | v + 1 => Nat.add_le_add (sd_ct_le A v) (bI_le _)
/-- a number bit by bit: bit d is f d (the bits below) -/
def sd_ac (f : Nat → Nat → Bool) : Nat → Nat
  | 0 => 0
  | d + 1 => sd_ac f d + (f d (sd_ac f d)).toNat * 2 ^ d
theorem sd_ac_lt (f : Nat → Nat → Bool) : ∀ d, sd_ac f d < 2 ^ d
  | 0 => by show 0 < 1; decide
  | d + 1 => by
    have h1 := sd_ac_lt f d
    have h2 := Nat.two_pow_succ d
    show sd_ac f d + (f d (sd_ac f d)).toNat * 2 ^ d < 2 ^ (d + 1)
    cases f d (sd_ac f d)
    · show sd_ac f d + 0 * 2 ^ d < _; omega
    · show sd_ac f d + 1 * 2 ^ d < _; omega
theorem sd_ac_tb (f : Nat → Nat → Bool) {d : Nat} : ∀ m, d < m → (sd_ac f m).testBit d = f d (sd_ac f d)
  | 0, h => by omega
  | m + 1, h => by
    show (sd_ac f m + (f m (sd_ac f m)).toNat * 2 ^ m).testBit d = _
    rw [Nat.add_comm, Nat.mul_comm, Nat.testBit_two_pow_mul_add _ (sd_ac_lt f m)]
    by_cases hd : d < m
    · rw [if_pos hd]
      exact sd_ac_tb f m hd
    · obtain rfl : d = m := by omega
      rw [if_neg hd, Nat.sub_self]
      cases f d (sd_ac f d) <;> rfl
theorem sd_ac_hi (f : Nat → Nat → Bool) {d m : Nat} (h : m ≤ d) : (sd_ac f m).testBit d = false := Nat.testBit_lt_two_pow (Nat.lt_of_lt_of_le (sd_ac_lt f m) (Nat.pow_le_pow_right (by decide) h))
theorem sd_ac_cg {f g : Nat → Nat → Bool} : ∀ m, (∀ d, d < m → f d (sd_ac f d) = g d (sd_ac f d)) → sd_ac f m = sd_ac g m
  | 0, _ => rfl
  | m + 1, h => by
    have h1 := sd_ac_cg m (fun d hd => h d (by omega))
    show sd_ac f m + (f m (sd_ac f m)).toNat * 2 ^ m = sd_ac g m + (g m (sd_ac g m)).toNat * 2 ^ m
    rw [h m (by omega), h1]
theorem sd_pos_ac (f : Nat → Nat → Bool) (d : Nat) : sd_pos (d + 1) (sd_ac f (d + 1)) = 2 * sd_pos d (sd_ac f d) + (f d (sd_ac f d)).toNat := by
  show 2 * sd_pos d (sd_ac f (d + 1)) + ((sd_ac f (d + 1)).testBit d).toNat = _
  rw [sd_ac_tb f (d + 1) (by omega), sd_pos_cg (v := sd_ac f (d + 1)) (w := sd_ac f d) d (fun i hi => by rw [sd_ac_tb f (d + 1) (by omega), sd_ac_tb f d hi])]
theorem sd_pos_acm (f : Nat → Nat → Bool) {d m : Nat} (h : d ≤ m) : sd_pos d (sd_ac f m) = sd_pos d (sd_ac f d) :=
  sd_pos_cg d (fun i hi => by rw [sd_ac_tb f m (by omega), sd_ac_tb f d hi])
/-- a clause fails at v -/
def sd_fl (y z v : Nat) : Bool := (v &&& y == 0) && (v &&& z == z)
/-- how many of the first k clauses fail at v -/
def sd_br (Y Z : Nat → Nat) : Nat → Nat → Nat
  | 0, _ => 0
  | k + 1, v => sd_br Y Z k v + (sd_fl (Y k) (Z k) v).toNat
theorem sd_br_cg {Y Z Y' Z' : Nat → Nat} {v : Nat} : ∀ k, (∀ j, j < k → Y j = Y' j ∧ Z j = Z' j) → sd_br Y Z k v = sd_br Y' Z' k v
  | 0, _ => rfl
  | k + 1, h => by
    show sd_br Y Z k v + (sd_fl (Y k) (Z k) v).toNat = sd_br Y' Z' k v + (sd_fl (Y' k) (Z' k) v).toNat
    rw [sd_br_cg k (fun j hj => h j (by omega)), (h k (by omega)).1, (h k (by omega)).2]
theorem sd_br_le (Y Z : Nat → Nat) (v : Nat) : ∀ k, sd_br Y Z k v ≤ k
  | 0 => Nat.le_refl 0
  | k + 1 => Nat.add_le_add (sd_br_le Y Z v k) (bI_le _)
/-- one clause more -/
theorem sd_br_up (Y Z : Nat → Nat) (k y z v : Nat) : sd_br (va_up Y k y) (va_up Z k z) (k + 1) v = sd_br Y Z k v + (sd_fl y z v).toNat := by
  show sd_br (va_up Y k y) (va_up Z k z) k v + (sd_fl (va_up Y k y k) (va_up Z k z k) v).toNat = _
  rw [va_up_self, va_up_self, sd_br_cg k (fun j hj => ⟨va_up_ne Y y (by omega), va_up_ne Z z (by omega)⟩)]
/-- clause i taken out of c + 1 -/
def sd_sh (Y : Nat → Nat) (i c : Nat) : Nat → Nat := fun j => if i ≤ j ∧ j < c then Y (j + 1) else Y j
theorem sd_br_sh (Y Z : Nat → Nat) {i : Nat} (v : Nat) : ∀ c, i ≤ c → sd_br Y Z (c + 1) v = sd_br (sd_sh Y i c) (sd_sh Z i c) c v + (sd_fl (Y i) (Z i) v).toNat
  | 0, h => by
    obtain rfl : i = 0 := by omega
    rfl
  | c + 1, h => by
    by_cases hi : i = c + 1
    · subst hi
      show sd_br Y Z (c + 1) v + _ = _
      rw [sd_br_cg (Y' := sd_sh Y (c + 1) (c + 1)) (Z' := sd_sh Z (c + 1) (c + 1)) (c + 1) (fun j hj => ⟨(if_neg (by omega)).symm, (if_neg (by omega)).symm⟩)]
    · have ih := sd_br_sh Y Z (i := i) v c (by omega)
      show sd_br Y Z (c + 1) v + (sd_fl (Y (c + 1)) (Z (c + 1)) v).toNat = sd_br (sd_sh Y i (c + 1)) (sd_sh Z i (c + 1)) c v + (sd_fl (sd_sh Y i (c + 1) c) (sd_sh Z i (c + 1) c) v).toNat + (sd_fl (Y i) (Z i) v).toNat
      have e1 : sd_sh Y i (c + 1) c = Y (c + 1) := if_pos (by omega)
      have e2 : sd_sh Z i (c + 1) c = Z (c + 1) := if_pos (by omega)
      have e3 : sd_br (sd_sh Y i (c + 1)) (sd_sh Z i (c + 1)) c v = sd_br (sd_sh Y i c) (sd_sh Z i c) c v := by
        apply sd_br_cg
        intro j hj
        by_cases hij : i ≤ j
        · exact ⟨by unfold sd_sh; rw [if_pos (by omega), if_pos (by omega)], by unfold sd_sh; rw [if_pos (by omega), if_pos (by omega)]⟩
        · exact ⟨by unfold sd_sh; rw [if_neg (by omega), if_neg (by omega)], by unfold sd_sh; rw [if_neg (by omega), if_neg (by omega)]⟩
      rw [e1, e2, e3, ih]
      omega
/-- the best move -/
def sd_bm (n A : Nat) (S : Nat → Bool) (d v : Nat) : Bool := !(sd_E n A S (d + 1) v == !A.testBit d) && (sd_E n A S (d + 1) (v + 2 ^ d) == !A.testBit d)
/-- how many below k -/
def sd_cn (f : Nat → Bool) : Nat → Nat
  | 0 => 0
  | k + 1 => sd_cn f k + (f k).toNat
theorem sd_cn_cg {f g : Nat → Bool} : ∀ k, (∀ j, j < k → f j = g j) → sd_cn f k = sd_cn g k
  | 0, _ => rfl
  | k + 1, h => by
    show sd_cn f k + _ = sd_cn g k + _
    rw [sd_cn_cg k (fun j hj => h j (by omega)), h k (by omega)]
theorem sd_cn_le (f : Nat → Bool) : ∀ k, sd_cn f k ≤ k
  | 0 => Nat.le_refl 0
  | k + 1 => Nat.add_le_add (sd_cn_le f k) (bI_le _)
theorem sd_cn_add (f : Nat → Bool) (a : Nat) : ∀ b, sd_cn f (a + b) = sd_cn f a + sd_cn (fun j => f (a + j)) b
  | 0 => rfl
  | b + 1 => by
    show sd_cn f (a + b) + (f (a + b)).toNat = sd_cn f a + (sd_cn (fun j => f (a + j)) b + (f (a + b)).toNat)
    rw [sd_cn_add f a b]
    omega
theorem sd_cn_two (f : Nat → Bool) : ∀ k, sd_cn f (2 * k) = sd_cn (fun j => f (2 * j)) k + sd_cn (fun j => f (2 * j + 1)) k
  | 0 => rfl
  | k + 1 => by
    show sd_cn f (2 * k) + (f (2 * k)).toNat + (f (2 * k + 1)).toNat = (sd_cn _ k + (f (2 * k)).toNat) + (sd_cn _ k + (f (2 * k + 1)).toNat)
    rw [sd_cn_two f k]
    omega
/-- the ends under a position are the values that go on from it -/
theorem sd_cn_pos {n : Nat} {S : Nat → Bool} : ∀ k v, k ≤ n → v < 2 ^ (n - k) → sd_cn (fun j => S (sd_on n (sd_pos (n - k) v * 2 ^ k + j) n)) (2 ^ k) = sd_cn (fun w => S (v + 2 ^ (n - k) * w)) (2 ^ k)
  | 0, v, _, hv => by
    show 0 + (S (sd_on n (sd_pos n v * 1 + 0) n)).toNat = 0 + (S (v + 2 ^ n * 0)).toNat
    rw [Nat.mul_one, Nat.add_zero, sd_on_pos n (Nat.le_refl n), Nat.mod_eq_of_lt (show v < 2 ^ n from hv), Nat.mul_zero, Nat.add_zero]
  | k + 1, v, h, hv => by
    have h1 := sd_cn_pos (n := n) (S := S) k v (by omega)
    have h2 := sd_cn_pos (n := n) (S := S) k (v + 2 ^ (n - (k + 1))) (by omega)
    rw [show n - k = n - (k + 1) + 1 by omega] at h1 h2
    generalize n - (k + 1) = d at hv h1 h2 ⊢
    have hp := Nat.two_pow_succ d
    have hk := Nat.two_pow_succ k
    have h1 := h1 (by omega)
    have h2 := h2 (by omega)
    rw [sd_pos_0 hv] at h1
    rw [sd_pos_1 hv] at h2
    have e1 : sd_cn (fun j => S (sd_on n (sd_pos d v * 2 ^ (k + 1) + j) n)) (2 ^ (k + 1)) = sd_cn (fun j => S (sd_on n (2 * sd_pos d v * 2 ^ k + j) n)) (2 ^ k) + sd_cn (fun j => S (sd_on n ((2 * sd_pos d v + 1) * 2 ^ k + j) n)) (2 ^ k) := by
      rw [hk, sd_cn_add]
      have a1 : sd_pos d v * (2 ^ k + 2 ^ k) = 2 * sd_pos d v * 2 ^ k := by
        rw [← Nat.two_mul, ← Nat.mul_assoc, Nat.mul_comm (sd_pos d v) 2]
      have a2 : ∀ j, sd_pos d v * (2 ^ k + 2 ^ k) + (2 ^ k + j) = (2 * sd_pos d v + 1) * 2 ^ k + j := by
        intro j
        rw [a1, Nat.add_mul, Nat.one_mul]
        omega
      rw [a1]
      congr 1
      apply sd_cn_cg
      intro j _
      show S (sd_on n (2 * sd_pos d v * 2 ^ k + (2 ^ k + j)) n) = _
      rw [← a1, a2 j]
    have e2 : sd_cn (fun w => S (v + 2 ^ d * w)) (2 ^ (k + 1)) = sd_cn (fun w => S (v + 2 ^ (d + 1) * w)) (2 ^ k) + sd_cn (fun w => S (v + 2 ^ d + 2 ^ (d + 1) * w)) (2 ^ k) := by
      rw [Nat.pow_succ', sd_cn_two]
      congr 1
      · apply sd_cn_cg
        intro j _
        show S (v + 2 ^ d * (2 * j)) = _
        rw [← Nat.mul_assoc, Nat.mul_comm (2 ^ d) 2, ← Nat.pow_succ']
      · apply sd_cn_cg
        intro j _
        show S (v + 2 ^ d * (2 * j + 1)) = _
        rw [Nat.mul_add, Nat.mul_one, ← Nat.mul_assoc, Nat.mul_comm (2 ^ d) 2, ← Nat.pow_succ', Nat.add_comm (2 ^ (d + 1) * j), Nat.add_assoc]
    rw [e1, e2, h1, h2]
theorem sd_cn_all {n : Nat} {S : Nat → Bool} : sd_cn (fun j => S (sd_on n (2 ^ n + j) n)) (2 ^ n) = sd_cn S (2 ^ n) := by
  have h := sd_cn_pos (n := n) (S := S) n 0 (Nat.le_refl n) (by rw [Nat.sub_self]; decide)
  rw [Nat.sub_self] at h
  have e1 : ∀ j, sd_pos 0 0 * 2 ^ n + j = 2 ^ n + j := fun j => by show 1 * 2 ^ n + j = _; rw [Nat.one_mul]
  have e2 : ∀ w, 0 + 2 ^ 0 * w = w := fun w => by rw [Nat.zero_add, Nat.pow_zero, Nat.one_mul]
  simp only [e1, e2] at h
  exact h
end
section
/-! The game, as numbers: clauses of the reference, lines of sums, learned tables, gaps, Adam's first five. -/
/-- all clauses hold, as the reference reads it -/
def sd_al (Y Z : Nat → Nat) (sk : Nat → Bool) (g : Bool) (v : Nat) : Nat → Bool
  | 0 => g
  | k + 1 => sd_al Y Z sk g v k && (sk k || !sd_fl (Y k) (Z k) v)
theorem sd_z (a : Nat) (b : Bool) : (a + b.toNat == 0) = ((a == 0) && !b) := by
  cases b
  · show (a + 0 == 0) = ((a == 0) && true)
    rw [Nat.add_zero, Bool.and_true]
  · show (a + 1 == 0) = ((a == 0) && false)
    rw [Bool.and_false]
    exact beq_false_of_ne (by omega)
theorem sd_al_g (Y Z : Nat → Nat) (sk : Nat → Bool) (g : Bool) (v : Nat) : ∀ k, sd_al Y Z sk g v k = (g && sd_al Y Z sk true v k)
  | 0 => (Bool.and_true g).symm
  | k + 1 => by
    show (sd_al Y Z sk g v k && _) = (g && (sd_al Y Z sk true v k && _))
    rw [sd_al_g Y Z sk g v k, Bool.and_assoc]
theorem sd_al_n (Y Z : Nat → Nat) (sk : Nat → Bool) (v : Nat) : ∀ k, (∀ j, j < k → sk j = false) → sd_al Y Z sk true v k = (sd_br Y Z k v == 0)
  | 0, _ => rfl
  | k + 1, h => by
    show (sd_al Y Z sk true v k && (sk k || !sd_fl (Y k) (Z k) v)) = (sd_br Y Z k v + (sd_fl (Y k) (Z k) v).toNat == 0)
    rw [sd_al_n Y Z sk v k (fun j hj => h j (by omega)), h k (by omega), Bool.false_or, sd_z]
theorem sd_al_m (Y Z : Nat → Nat) (y z v k : Nat) : sd_al Y Z (fun _ => false) (!sd_fl y z v) v k = (sd_br (va_up Y k y) (va_up Z k z) (k + 1) v == 0) := by
  rw [sd_al_g, sd_al_n _ _ _ _ k (fun _ _ => rfl), sd_br_up, sd_z, Bool.and_comm]
theorem sd_al_s (Y Z : Nat → Nat) {i : Nat} (v : Nat) : ∀ c, i ≤ c → sd_al Y Z (fun k => k == i) true v (c + 1) = (sd_br (sd_sh Y i c) (sd_sh Z i c) c v == 0)
  | 0, h => by
    obtain rfl : i = 0 := by omega
    rfl
  | c + 1, h => by
    show (sd_al Y Z (fun k => k == i) true v (c + 1) && ((c + 1 == i) || !sd_fl (Y (c + 1)) (Z (c + 1)) v)) = _
    by_cases hi : i = c + 1
    · subst hi
      rw [sd_al_n Y Z _ v (c + 1) (fun j hj => beq_false_of_ne (by omega)), beq_self_eq_true, Bool.true_or, Bool.and_true]
      rw [sd_br_cg (Y' := sd_sh Y (c + 1) (c + 1)) (Z' := sd_sh Z (c + 1) (c + 1)) (c + 1) (fun j hj => ⟨(if_neg (by omega)).symm, (if_neg (by omega)).symm⟩)]
    · have e0 : (c + 1 == i) = false := beq_false_of_ne (fun h2 => hi h2.symm)
      have e1 : sd_sh Y i (c + 1) c = Y (c + 1) := if_pos (by omega)
      have e2 : sd_sh Z i (c + 1) c = Z (c + 1) := if_pos (by omega)
      have e3 : sd_br (sd_sh Y i (c + 1)) (sd_sh Z i (c + 1)) c v = sd_br (sd_sh Y i c) (sd_sh Z i c) c v := by
        apply sd_br_cg
        intro j hj
        by_cases hij : i ≤ j
        · exact ⟨by unfold sd_sh; rw [if_pos (by omega), if_pos (by omega)], by unfold sd_sh; rw [if_pos (by omega), if_pos (by omega)]⟩
        · exact ⟨by unfold sd_sh; rw [if_neg (by omega), if_neg (by omega)], by unfold sd_sh; rw [if_neg (by omega), if_neg (by omega)]⟩
      show _ = (sd_br (sd_sh Y i (c + 1)) (sd_sh Z i (c + 1)) c v + (sd_fl (sd_sh Y i (c + 1) c) (sd_sh Z i (c + 1) c) v).toNat == 0)
      rw [e0, Bool.false_or, sd_al_s Y Z v c (by omega), e1, e2, e3, sd_z]
/-- the line of a sum: Adam's values are its bits, Eve's are g's -/
def sd_li (A : Nat) (g : Nat → Nat → Bool) (sum : Nat) : Nat → Nat → Bool := fun d x => if A.testBit d = true then sum.testBit (sd_ct A d) else g d x
theorem sd_li_a {A : Nat} {g : Nat → Nat → Bool} {sum d x : Nat} (h : A.testBit d = true) : sd_li A g sum d x = sum.testBit (sd_ct A d) := if_pos h
theorem sd_li_e {A : Nat} {g : Nat → Nat → Bool} {sum d x : Nat} (h : A.testBit d = false) : sd_li A g sum d x = g d x := if_neg (by rw [h]; decide)
theorem sd_ct_a {A w d : Nat} (h : A.testBit w = true) (hw : w < d) : sd_ct A w < sd_ct A d := by
  have h1 := sd_ct_mono A (v := w + 1) (w := d) hw
  have h2 : sd_ct A (w + 1) = sd_ct A w + 1 := by
    show sd_ct A w + (A.testBit w).toNat = _
    rw [h]
    rfl
  omega
theorem sd_tbm {s t m i : Nat} (h : s % 2 ^ m = t % 2 ^ m) (hi : i < m) : s.testBit i = t.testBit i := by
  have h1 := Nat.testBit_mod_two_pow s m i
  have h2 := Nat.testBit_mod_two_pow t m i
  rw [h, h2] at h1
  simpa [hi] using h1.symm
theorem sd_li_cg {A : Nat} {g : Nat → Nat → Bool} {s t d : Nat} (h : s % 2 ^ sd_ct A d = t % 2 ^ sd_ct A d) : sd_ac (sd_li A g s) d = sd_ac (sd_li A g t) d := by
  apply sd_ac_cg
  intro w hw
  by_cases ha : A.testBit w = true
  · rw [sd_li_a ha, sd_li_a ha]
    exact sd_tbm h (sd_ct_a ha hw)
  · have ha : A.testBit w = false := by simpa using ha
    rw [sd_li_e ha, sd_li_e ha]
/-- what is learned for variable v at index i -/
def sd_lb (n A : Nat) (S : Nat → Bool) (v i : Nat) : Bool := sd_bm n A S v (sd_ac (sd_li A (sd_bm n A S) i) v)
/-- a table of k bits -/
def sd_ob (g : Nat → Bool) (k : Nat) : Nat := sd_ac (fun i _ => g i) k
theorem sd_ob_s (g : Nat → Bool) (k : Nat) : sd_ob g (k + 1) = sd_ob g k + (g k).toNat * 2 ^ k := rfl
theorem sd_ob_lt (g : Nat → Bool) (k : Nat) : sd_ob g k < 2 ^ k := sd_ac_lt _ k
theorem sd_ob_tb (g : Nat → Bool) {i k : Nat} (h : i < k) : (sd_ob g k).testBit i = g i := sd_ac_tb _ k h
theorem sd_ob_hi (g : Nat → Bool) {i k : Nat} (h : k ≤ i) : (sd_ob g k).testBit i = false := sd_ac_hi _ h
/-- one bit more -/
theorem sd_ob_or (g : Nat → Bool) (k : Nat) : sd_ob g k ||| (g k).toNat * 2 ^ k = sd_ob g (k + 1) := by
  rw [hw_orb (sd_ob_hi g (Nat.le_refl k))]
  rfl
/-- a bit that is there already -/
theorem sd_ob_in (g : Nat → Bool) {i k : Nat} (h : i < k) : sd_ob g k ||| (g i).toNat * 2 ^ i = sd_ob g k := by
  apply Nat.eq_of_testBit_eq
  intro j
  rw [Nat.testBit_or, Nat.testBit_mul_two_pow]
  by_cases hj : j = i
  · subst hj
    rw [sd_ob_tb g h]
    cases g j <;> simp
  · have e : (decide (i ≤ j) && (g i).toNat.testBit (j - i)) = false := by
      by_cases hij : i ≤ j
      · have h1 : (g i).toNat < 2 ^ (j - i) := by
          have h2 := bI_le (g i)
          have h3 : 2 ^ 1 ≤ 2 ^ (j - i) := Nat.pow_le_pow_right (by decide) (by omega)
          omega
        rw [Nat.testBit_lt_two_pow h1, Bool.and_false]
      · rw [decide_eq_false hij, Bool.false_and]
    rw [e, Bool.or_false]
def sd_lt (n A : Nat) (S : Nat → Bool) (v : Nat) : Nat := sd_ob (sd_lb n A S v) (2 ^ sd_ct A v)
/-- the tables behind learn -/
def sd_T (n A : Nat) (S : Nat → Bool) (T : Nat → Int32) : Nat → Int32 := fun v => if v < n then (if A.testBit v = true then 0 else nI (sd_lt n A S v)) else T v
/-- the line of the claims -/
def sd_cl (A : Nat) (T : Nat → Int32) (sum : Nat) : Nat → Nat → Bool := sd_li A (fun d _ => (uN (T d)).testBit (sum % 2 ^ sd_ct A d)) sum
theorem sd_p32 {A n v : Nat} (h5 : sd_ct A n ≤ 5) (hv : v ≤ n) : 2 ^ sd_ct A v ≤ 32 := by
  have h1 := sd_ct_mono A hv
  exact Nat.pow_le_pow_right (n := 2) (by decide) (show sd_ct A v ≤ 5 by omega)
theorem sd_lt_32 {n A v : Nat} {S : Nat → Bool} (h5 : sd_ct A n ≤ 5) (hv : v ≤ n) : sd_lt n A S v < 2 ^ 32 :=
  Nat.lt_of_lt_of_le (sd_ob_lt _ _) (Nat.pow_le_pow_right (by decide) (sd_p32 h5 hv))
/-- learned tables lead along the best moves -/
theorem sd_cl_learn {n A : Nat} {S : Nat → Bool} {T : Nat → Int32} (h5 : sd_ct A n ≤ 5) (sum : Nat) {m : Nat} (hm : m ≤ n) (hT : ∀ d, d < m → A.testBit d = false → T d = nI (sd_lt n A S d)) : sd_ac (sd_cl A T sum) m = sd_ac (sd_li A (sd_bm n A S) sum) m := by
  symm
  apply sd_ac_cg
  intro d hd
  by_cases ha : A.testBit d = true
  · unfold sd_cl
    rw [sd_li_a ha, sd_li_a ha]
  · have ha : A.testBit d = false := by simpa using ha
    unfold sd_cl
    rw [sd_li_e ha, sd_li_e ha, hT d hd ha, uN_nI (sd_lt_32 h5 (by omega))]
    unfold sd_lt
    rw [sd_ob_tb _ (Nat.mod_lt _ (Nat.two_pow_pos _))]
    unfold sd_lb
    rw [sd_li_cg (s := sum % 2 ^ sd_ct A d) (t := sum) (Nat.mod_mod _ _)]
/-- the first place where f fails, of the k from i on -/
def sd_gp (f : Nat → Bool) : Nat → Nat → Int32
  | 0, _ => -1
  | k + 1, i => if f i = true then sd_gp f k (i + 1) else nI i
theorem sd_gp_cg {f g : Nat → Bool} : ∀ k i, (∀ j, i ≤ j → j < i + k → f j = g j) → sd_gp f k i = sd_gp g k i
  | 0, _, _ => rfl
  | k + 1, i, h => by
    show (if f i = true then sd_gp f k (i + 1) else nI i) = (if g i = true then sd_gp g k (i + 1) else nI i)
    rw [h i (Nat.le_refl i) (by omega), sd_gp_cg k (i + 1) (fun j h1 h2 => h j (by omega) (by omega))]
/-- Adam's first five below v: the set, and how many -/
def sd_kk (x : Nat) : Nat → Nat × Nat
  | 0 => (0, 0)
  | v + 1 => if x.testBit v = true ∧ (sd_kk x v).2 < 5 then ((sd_kk x v).1 + 2 ^ v, (sd_kk x v).2 + 1) else sd_kk x v
theorem sd_kk_t {x v : Nat} (h : x.testBit v = true) (h2 : (sd_kk x v).2 < 5) : sd_kk x (v + 1) = ((sd_kk x v).1 + 2 ^ v, (sd_kk x v).2 + 1) := if_pos ⟨h, h2⟩
theorem sd_kk_f {x v : Nat} (h : ¬ (x.testBit v = true ∧ (sd_kk x v).2 < 5)) : sd_kk x (v + 1) = sd_kk x v := if_neg h
theorem sd_kk_lt (x : Nat) : ∀ v, (sd_kk x v).1 < 2 ^ v
  | 0 => by show 0 < 1; decide
  | v + 1 => by
    have h1 := sd_kk_lt x v
    have h2 := Nat.two_pow_succ v
    by_cases h : x.testBit v = true ∧ (sd_kk x v).2 < 5
    · rw [sd_kk_t h.1 h.2]
      show (sd_kk x v).1 + 2 ^ v < _
      omega
    · rw [sd_kk_f h]
      omega
theorem sd_kk_5 (x : Nat) : ∀ v, (sd_kk x v).2 ≤ 5
  | 0 => by show 0 ≤ 5; decide
  | v + 1 => by
    have h1 := sd_kk_5 x v
    by_cases h : x.testBit v = true ∧ (sd_kk x v).2 < 5
    · rw [sd_kk_t h.1 h.2]
      show (sd_kk x v).2 + 1 ≤ 5
      omega
    · rw [sd_kk_f h]
      omega
theorem sd_kk_le (x : Nat) : ∀ v, (sd_kk x v).2 ≤ v
  | 0 => Nat.le_refl 0
  | v + 1 => by
    have h1 := sd_kk_le x v
    by_cases h : x.testBit v = true ∧ (sd_kk x v).2 < 5
    · rw [sd_kk_t h.1 h.2]
      show (sd_kk x v).2 + 1 ≤ v + 1
      omega
    · rw [sd_kk_f h]
      omega
theorem sd_kk_cg {x y : Nat} : ∀ v, (∀ i, i < v → x.testBit i = y.testBit i) → sd_kk x v = sd_kk y v
  | 0, _ => rfl
  | v + 1, h => by
    have h1 := sd_kk_cg v (fun i hi => h i (by omega))
    show (if x.testBit v = true ∧ (sd_kk x v).2 < 5 then ((sd_kk x v).1 + 2 ^ v, (sd_kk x v).2 + 1) else sd_kk x v) = _
    rw [h v (by omega), h1]
    rfl
/-- behind the last variable, or with five taken, nothing comes -/
theorem sd_kk_end {x n : Nat} (h : ∀ i, n ≤ i → x.testBit i = false ∨ 5 ≤ (sd_kk x n).2) : ∀ k, sd_kk x (n + k) = sd_kk x n
  | 0 => rfl
  | k + 1 => by
    have h1 := sd_kk_end h k
    show sd_kk x (n + k + 1) = _
    rw [sd_kk_f, h1]
    rw [h1]
    intro h2
    rcases h (n + k) (by omega) with h3 | h3
    · rw [h3] at h2
      exact absurd h2.1 (by decide)
    · omega
theorem sd_ct_cg {A B : Nat} : ∀ v, (∀ i, i < v → A.testBit i = B.testBit i) → sd_ct A v = sd_ct B v
  | 0, _ => rfl
  | v + 1, h => by
    show sd_ct A v + _ = sd_ct B v + _
    rw [sd_ct_cg v (fun i hi => h i (by omega)), h v (by omega)]
theorem sd_kk_ct (x : Nat) : ∀ v, sd_ct (sd_kk x v).1 v = (sd_kk x v).2
  | 0 => rfl
  | v + 1 => by
    have h1 := sd_kk_ct x v
    have hl := sd_kk_lt x v
    by_cases h : x.testBit v = true ∧ (sd_kk x v).2 < 5
    · rw [sd_kk_t h.1 h.2]
      show sd_ct ((sd_kk x v).1 + 2 ^ v) v + (((sd_kk x v).1 + 2 ^ v).testBit v).toNat = (sd_kk x v).2 + 1
      rw [Nat.add_comm (sd_kk x v).1, Nat.testBit_two_pow_add_eq, Nat.testBit_lt_two_pow hl, sd_ct_cg (B := (sd_kk x v).1) v (fun i hi => Nat.testBit_two_pow_add_gt hi _), h1]
      rfl
    · rw [sd_kk_f h]
      show sd_ct (sd_kk x v).1 v + ((sd_kk x v).1.testBit v).toNat = (sd_kk x v).2
      rw [Nat.testBit_lt_two_pow hl, h1]
      rfl
theorem sd_A5 (x n : Nat) : sd_ct (sd_kk x n).1 n ≤ 5 := by
  rw [sd_kk_ct]
  exact sd_kk_5 x n
end
section
theorem dX1_init_0 : decode cX1_init 0 = .ok (.aload_n 0, 1) := by decide +kernel
theorem dX1_init_1 : decode cX1_init 1 = .ok (.invokespecial 1, 3) := by decide +kernel
theorem dX1_init_4 : decode cX1_init 4 = .ok (.aload_n 0, 1) := by decide +kernel
theorem dX1_init_5 : decode cX1_init 5 = .ok (.iconst 1, 1) := by decide +kernel
theorem dX1_init_6 : decode cX1_init 6 = .ok (.bipush 10, 2) := by decide +kernel
theorem dX1_init_8 : decode cX1_init 8 = .ok (.iload_n 1, 1) := by decide +kernel
theorem dX1_init_9 : decode cX1_init 9 = .ok (.invokestatic 9, 3) := by decide +kernel
theorem dX1_init_12 : decode cX1_init 12 = .ok (.invokestatic 15, 3) := by decide +kernel
theorem dX1_init_15 : decode cX1_init 15 = .ok (.putfield 18, 3) := by decide +kernel
theorem dX1_init_18 : decode cX1_init 18 = .ok (.iconst 1, 1) := by decide +kernel
theorem dX1_init_19 : decode cX1_init 19 = .ok (.aload_n 0, 1) := by decide +kernel
theorem dX1_init_20 : decode cX1_init 20 = .ok (.getfield 18, 3) := by decide +kernel
theorem dX1_init_23 : decode cX1_init 23 = .ok (.ishl, 1) := by decide +kernel
theorem dX1_init_24 : decode cX1_init 24 = .ok (.iconst 1, 1) := by decide +kernel
theorem dX1_init_25 : decode cX1_init 25 = .ok (.isub, 1) := by decide +kernel
theorem dX1_init_26 : decode cX1_init 26 = .ok (.istore_n 3, 1) := by decide +kernel
theorem dX1_init_27 : decode cX1_init 27 = .ok (.aload_n 0, 1) := by decide +kernel
theorem dX1_init_28 : decode cX1_init 28 = .ok (.iload_n 2, 1) := by decide +kernel
theorem dX1_init_29 : decode cX1_init 29 = .ok (.iload_n 3, 1) := by decide +kernel
theorem dX1_init_30 : decode cX1_init 30 = .ok (.iand, 1) := by decide +kernel
theorem dX1_init_31 : decode cX1_init 31 = .ok (.iconst 5, 1) := by decide +kernel
theorem dX1_init_32 : decode cX1_init 32 = .ok (.invokestatic 22, 3) := by decide +kernel
theorem dX1_init_35 : decode cX1_init 35 = .ok (.putfield 25, 3) := by decide +kernel
theorem dX1_init_38 : decode cX1_init 38 = .ok (.aload_n 0, 1) := by decide +kernel
theorem dX1_init_39 : decode cX1_init 39 = .ok (.iload_n 3, 1) := by decide +kernel
theorem dX1_init_40 : decode cX1_init 40 = .ok (.aload_n 0, 1) := by decide +kernel
theorem dX1_init_41 : decode cX1_init 41 = .ok (.getfield 25, 3) := by decide +kernel
theorem dX1_init_44 : decode cX1_init 44 = .ok (.iconst (-1), 1) := by decide +kernel
theorem dX1_init_45 : decode cX1_init 45 = .ok (.ixor, 1) := by decide +kernel
theorem dX1_init_46 : decode cX1_init 46 = .ok (.iand, 1) := by decide +kernel
theorem dX1_init_47 : decode cX1_init 47 = .ok (.putfield 28, 3) := by decide +kernel
theorem dX1_init_50 : decode cX1_init 50 = .ok (.aload_n 0, 1) := by decide +kernel
theorem dX1_init_51 : decode cX1_init 51 = .ok (.new 31, 3) := by decide +kernel
theorem dX1_init_54 : decode cX1_init 54 = .ok (.dup, 1) := by decide +kernel
theorem dX1_init_55 : decode cX1_init 55 = .ok (.aload_n 0, 1) := by decide +kernel
theorem dX1_init_56 : decode cX1_init 56 = .ok (.getfield 18, 3) := by decide +kernel
theorem dX1_init_59 : decode cX1_init 59 = .ok (.aload_n 0, 1) := by decide +kernel
theorem dX1_init_60 : decode cX1_init 60 = .ok (.getfield 25, 3) := by decide +kernel
theorem dX1_init_63 : decode cX1_init 63 = .ok (.invokespecial 33, 3) := by decide +kernel
theorem dX1_init_66 : decode cX1_init 66 = .ok (.putfield 36, 3) := by decide +kernel
theorem dX1_init_69 : decode cX1_init 69 = .ok (.aload_n 0, 1) := by decide +kernel
theorem dX1_init_70 : decode cX1_init 70 = .ok (.bipush 24, 2) := by decide +kernel
theorem dX1_init_72 : decode cX1_init 72 = .ok (.newarray .int, 2) := by decide +kernel
theorem dX1_init_74 : decode cX1_init 74 = .ok (.putfield 40, 3) := by decide +kernel
theorem dX1_init_77 : decode cX1_init 77 = .ok (.aload_n 0, 1) := by decide +kernel
theorem dX1_init_78 : decode cX1_init 78 = .ok (.bipush 24, 2) := by decide +kernel
theorem dX1_init_80 : decode cX1_init 80 = .ok (.newarray .int, 2) := by decide +kernel
theorem dX1_init_82 : decode cX1_init 82 = .ok (.putfield 44, 3) := by decide +kernel
theorem dX1_init_85 : decode cX1_init 85 = .ok (.aload_n 0, 1) := by decide +kernel
theorem dX1_init_86 : decode cX1_init 86 = .ok (.aload_n 0, 1) := by decide +kernel
theorem dX1_init_87 : decode cX1_init 87 = .ok (.getfield 18, 3) := by decide +kernel
theorem dX1_init_90 : decode cX1_init 90 = .ok (.newarray .int, 2) := by decide +kernel
theorem dX1_init_92 : decode cX1_init 92 = .ok (.putfield 47, 3) := by decide +kernel
theorem dX1_init_95 : decode cX1_init 95 = .ok (.return_, 1) := by decide +kernel
theorem dX1_firstOf_0 : decode cX1_firstOf 0 = .ok (.iconst 0, 1) := by decide +kernel
theorem dX1_firstOf_1 : decode cX1_firstOf 1 = .ok (.istore_n 2, 1) := by decide +kernel
theorem dX1_firstOf_2 : decode cX1_firstOf 2 = .ok (.iconst 0, 1) := by decide +kernel
theorem dX1_firstOf_3 : decode cX1_firstOf 3 = .ok (.istore_n 3, 1) := by decide +kernel
theorem dX1_firstOf_4 : decode cX1_firstOf 4 = .ok (.iconst 0, 1) := by decide +kernel
theorem dX1_firstOf_5 : decode cX1_firstOf 5 = .ok (.istore 4, 2) := by decide +kernel
theorem dX1_firstOf_7 : decode cX1_firstOf 7 = .ok (.iload 4, 2) := by decide +kernel
theorem dX1_firstOf_9 : decode cX1_firstOf 9 = .ok (.bipush 10, 2) := by decide +kernel
theorem dX1_firstOf_11 : decode cX1_firstOf 11 = .ok (.if_icmp .ge 34, 3) := by decide +kernel
theorem dX1_firstOf_14 : decode cX1_firstOf 14 = .ok (.iload_n 3, 1) := by decide +kernel
theorem dX1_firstOf_15 : decode cX1_firstOf 15 = .ok (.iload_n 1, 1) := by decide +kernel
theorem dX1_firstOf_16 : decode cX1_firstOf 16 = .ok (.if_icmp .ge 29, 3) := by decide +kernel
theorem dX1_firstOf_19 : decode cX1_firstOf 19 = .ok (.iload_n 0, 1) := by decide +kernel
theorem dX1_firstOf_20 : decode cX1_firstOf 20 = .ok (.iload 4, 2) := by decide +kernel
theorem dX1_firstOf_22 : decode cX1_firstOf 22 = .ok (.invokestatic 83, 3) := by decide +kernel
theorem dX1_firstOf_25 : decode cX1_firstOf 25 = .ok (.iconst 1, 1) := by decide +kernel
theorem dX1_firstOf_26 : decode cX1_firstOf 26 = .ok (.if_icmp .ne 13, 3) := by decide +kernel
theorem dX1_firstOf_29 : decode cX1_firstOf 29 = .ok (.iload_n 2, 1) := by decide +kernel
theorem dX1_firstOf_30 : decode cX1_firstOf 30 = .ok (.iconst 1, 1) := by decide +kernel
theorem dX1_firstOf_31 : decode cX1_firstOf 31 = .ok (.iload 4, 2) := by decide +kernel
theorem dX1_firstOf_33 : decode cX1_firstOf 33 = .ok (.ishl, 1) := by decide +kernel
theorem dX1_firstOf_34 : decode cX1_firstOf 34 = .ok (.ior, 1) := by decide +kernel
theorem dX1_firstOf_35 : decode cX1_firstOf 35 = .ok (.istore_n 2, 1) := by decide +kernel
theorem dX1_firstOf_36 : decode cX1_firstOf 36 = .ok (.iinc 3 1, 3) := by decide +kernel
theorem dX1_firstOf_39 : decode cX1_firstOf 39 = .ok (.iinc 4 1, 3) := by decide +kernel
theorem dX1_firstOf_42 : decode cX1_firstOf 42 = .ok (.goto (-35), 3) := by decide +kernel
theorem dX1_firstOf_45 : decode cX1_firstOf 45 = .ok (.iload_n 2, 1) := by decide +kernel
theorem dX1_firstOf_46 : decode cX1_firstOf 46 = .ok (.ireturn, 1) := by decide +kernel
theorem dX1_bit_0 : decode cX1_bit 0 = .ok (.iload_n 0, 1) := by decide +kernel
theorem dX1_bit_1 : decode cX1_bit 1 = .ok (.iload_n 1, 1) := by decide +kernel
theorem dX1_bit_2 : decode cX1_bit 2 = .ok (.iushr, 1) := by decide +kernel
theorem dX1_bit_3 : decode cX1_bit 3 = .ok (.iconst 1, 1) := by decide +kernel
theorem dX1_bit_4 : decode cX1_bit 4 = .ok (.iand, 1) := by decide +kernel
theorem dX1_bit_5 : decode cX1_bit 5 = .ok (.ireturn, 1) := by decide +kernel
theorem dX0_init_0 : decode cX0_init 0 = .ok (.aload_n 0, 1) := by decide +kernel
theorem dX0_init_1 : decode cX0_init 1 = .ok (.invokespecial 1, 3) := by decide +kernel
theorem dX0_init_4 : decode cX0_init 4 = .ok (.aload_n 0, 1) := by decide +kernel
theorem dX0_init_5 : decode cX0_init 5 = .ok (.iload_n 1, 1) := by decide +kernel
theorem dX0_init_6 : decode cX0_init 6 = .ok (.putfield 7, 3) := by decide +kernel
theorem dX0_init_9 : decode cX0_init 9 = .ok (.aload_n 0, 1) := by decide +kernel
theorem dX0_init_10 : decode cX0_init 10 = .ok (.iload_n 2, 1) := by decide +kernel
theorem dX0_init_11 : decode cX0_init 11 = .ok (.putfield 13, 3) := by decide +kernel
theorem dX0_init_14 : decode cX0_init 14 = .ok (.aload_n 0, 1) := by decide +kernel
theorem dX0_init_15 : decode cX0_init 15 = .ok (.iconst 1, 1) := by decide +kernel
theorem dX0_init_16 : decode cX0_init 16 = .ok (.iload_n 1, 1) := by decide +kernel
theorem dX0_init_17 : decode cX0_init 17 = .ok (.ishl, 1) := by decide +kernel
theorem dX0_init_18 : decode cX0_init 18 = .ok (.newarray .int, 2) := by decide +kernel
theorem dX0_init_20 : decode cX0_init 20 = .ok (.putfield 16, 3) := by decide +kernel
theorem dX0_init_23 : decode cX0_init 23 = .ok (.aload_n 0, 1) := by decide +kernel
theorem dX0_init_24 : decode cX0_init 24 = .ok (.iconst 2, 1) := by decide +kernel
theorem dX0_init_25 : decode cX0_init 25 = .ok (.iload_n 1, 1) := by decide +kernel
theorem dX0_init_26 : decode cX0_init 26 = .ok (.ishl, 1) := by decide +kernel
theorem dX0_init_27 : decode cX0_init 27 = .ok (.newarray .boolean, 2) := by decide +kernel
theorem dX0_init_29 : decode cX0_init 29 = .ok (.putfield 20, 3) := by decide +kernel
theorem dX0_init_32 : decode cX0_init 32 = .ok (.aload_n 0, 1) := by decide +kernel
theorem dX0_init_33 : decode cX0_init 33 = .ok (.invokevirtual 24, 3) := by decide +kernel
theorem dX0_init_36 : decode cX0_init 36 = .ok (.return_, 1) := by decide +kernel
theorem dX0_judgeAll_0 : decode cX0_judgeAll 0 = .ok (.iconst 0, 1) := by decide +kernel
theorem dX0_judgeAll_1 : decode cX0_judgeAll 1 = .ok (.istore_n 1, 1) := by decide +kernel
theorem dX0_judgeAll_2 : decode cX0_judgeAll 2 = .ok (.iload_n 1, 1) := by decide +kernel
theorem dX0_judgeAll_3 : decode cX0_judgeAll 3 = .ok (.aload_n 0, 1) := by decide +kernel
theorem dX0_judgeAll_4 : decode cX0_judgeAll 4 = .ok (.getfield 16, 3) := by decide +kernel
theorem dX0_judgeAll_7 : decode cX0_judgeAll 7 = .ok (.arraylength, 1) := by decide +kernel
theorem dX0_judgeAll_8 : decode cX0_judgeAll 8 = .ok (.if_icmp .ge 35, 3) := by decide +kernel
theorem dX0_judgeAll_11 : decode cX0_judgeAll 11 = .ok (.aload_n 0, 1) := by decide +kernel
theorem dX0_judgeAll_12 : decode cX0_judgeAll 12 = .ok (.getfield 20, 3) := by decide +kernel
theorem dX0_judgeAll_15 : decode cX0_judgeAll 15 = .ok (.aload_n 0, 1) := by decide +kernel
theorem dX0_judgeAll_16 : decode cX0_judgeAll 16 = .ok (.getfield 16, 3) := by decide +kernel
theorem dX0_judgeAll_19 : decode cX0_judgeAll 19 = .ok (.arraylength, 1) := by decide +kernel
theorem dX0_judgeAll_20 : decode cX0_judgeAll 20 = .ok (.iload_n 1, 1) := by decide +kernel
theorem dX0_judgeAll_21 : decode cX0_judgeAll 21 = .ok (.iadd, 1) := by decide +kernel
theorem dX0_judgeAll_22 : decode cX0_judgeAll 22 = .ok (.aload_n 0, 1) := by decide +kernel
theorem dX0_judgeAll_23 : decode cX0_judgeAll 23 = .ok (.getfield 16, 3) := by decide +kernel
theorem dX0_judgeAll_26 : decode cX0_judgeAll 26 = .ok (.iload_n 1, 1) := by decide +kernel
theorem dX0_judgeAll_27 : decode cX0_judgeAll 27 = .ok (.iaload, 1) := by decide +kernel
theorem dX0_judgeAll_28 : decode cX0_judgeAll 28 = .ok (.ifCond .ne 7, 3) := by decide +kernel
theorem dX0_judgeAll_31 : decode cX0_judgeAll 31 = .ok (.iconst 1, 1) := by decide +kernel
theorem dX0_judgeAll_32 : decode cX0_judgeAll 32 = .ok (.goto 4, 3) := by decide +kernel
theorem dX0_judgeAll_35 : decode cX0_judgeAll 35 = .ok (.iconst 0, 1) := by decide +kernel
theorem dX0_judgeAll_36 : decode cX0_judgeAll 36 = .ok (.bastore, 1) := by decide +kernel
theorem dX0_judgeAll_37 : decode cX0_judgeAll 37 = .ok (.iinc 1 1, 3) := by decide +kernel
theorem dX0_judgeAll_40 : decode cX0_judgeAll 40 = .ok (.goto (-38), 3) := by decide +kernel
theorem dX0_judgeAll_43 : decode cX0_judgeAll 43 = .ok (.aload_n 0, 1) := by decide +kernel
theorem dX0_judgeAll_44 : decode cX0_judgeAll 44 = .ok (.getfield 7, 3) := by decide +kernel
theorem dX0_judgeAll_47 : decode cX0_judgeAll 47 = .ok (.iconst 1, 1) := by decide +kernel
theorem dX0_judgeAll_48 : decode cX0_judgeAll 48 = .ok (.isub, 1) := by decide +kernel
theorem dX0_judgeAll_49 : decode cX0_judgeAll 49 = .ok (.istore_n 1, 1) := by decide +kernel
theorem dX0_judgeAll_50 : decode cX0_judgeAll 50 = .ok (.iload_n 1, 1) := by decide +kernel
theorem dX0_judgeAll_51 : decode cX0_judgeAll 51 = .ok (.ifCond .lt 14, 3) := by decide +kernel
theorem dX0_judgeAll_54 : decode cX0_judgeAll 54 = .ok (.aload_n 0, 1) := by decide +kernel
theorem dX0_judgeAll_55 : decode cX0_judgeAll 55 = .ok (.iload_n 1, 1) := by decide +kernel
theorem dX0_judgeAll_56 : decode cX0_judgeAll 56 = .ok (.invokevirtual 37, 3) := by decide +kernel
theorem dX0_judgeAll_59 : decode cX0_judgeAll 59 = .ok (.iinc 1 (-1), 3) := by decide +kernel
theorem dX0_judgeAll_62 : decode cX0_judgeAll 62 = .ok (.goto (-12), 3) := by decide +kernel
theorem dX0_judgeAll_65 : decode cX0_judgeAll 65 = .ok (.return_, 1) := by decide +kernel
theorem dX0_judgeDepth_0 : decode cX0_judgeDepth 0 = .ok (.aload_n 0, 1) := by decide +kernel
theorem dX0_judgeDepth_1 : decode cX0_judgeDepth 1 = .ok (.getfield 13, 3) := by decide +kernel
theorem dX0_judgeDepth_4 : decode cX0_judgeDepth 4 = .ok (.iload_n 1, 1) := by decide +kernel
theorem dX0_judgeDepth_5 : decode cX0_judgeDepth 5 = .ok (.invokestatic 27, 3) := by decide +kernel
theorem dX0_judgeDepth_8 : decode cX0_judgeDepth 8 = .ok (.ifCond .ne 7, 3) := by decide +kernel
theorem dX0_judgeDepth_11 : decode cX0_judgeDepth 11 = .ok (.iconst 1, 1) := by decide +kernel
theorem dX0_judgeDepth_12 : decode cX0_judgeDepth 12 = .ok (.goto 4, 3) := by decide +kernel
theorem dX0_judgeDepth_15 : decode cX0_judgeDepth 15 = .ok (.iconst 0, 1) := by decide +kernel
theorem dX0_judgeDepth_16 : decode cX0_judgeDepth 16 = .ok (.istore_n 2, 1) := by decide +kernel
theorem dX0_judgeDepth_17 : decode cX0_judgeDepth 17 = .ok (.iconst 1, 1) := by decide +kernel
theorem dX0_judgeDepth_18 : decode cX0_judgeDepth 18 = .ok (.iload_n 1, 1) := by decide +kernel
theorem dX0_judgeDepth_19 : decode cX0_judgeDepth 19 = .ok (.ishl, 1) := by decide +kernel
theorem dX0_judgeDepth_20 : decode cX0_judgeDepth 20 = .ok (.istore_n 3, 1) := by decide +kernel
theorem dX0_judgeDepth_21 : decode cX0_judgeDepth 21 = .ok (.iconst 0, 1) := by decide +kernel
theorem dX0_judgeDepth_22 : decode cX0_judgeDepth 22 = .ok (.istore 4, 2) := by decide +kernel
theorem dX0_judgeDepth_24 : decode cX0_judgeDepth 24 = .ok (.iload 4, 2) := by decide +kernel
theorem dX0_judgeDepth_26 : decode cX0_judgeDepth 26 = .ok (.iload_n 3, 1) := by decide +kernel
theorem dX0_judgeDepth_27 : decode cX0_judgeDepth 27 = .ok (.if_icmp .ge 79, 3) := by decide +kernel
theorem dX0_judgeDepth_30 : decode cX0_judgeDepth 30 = .ok (.aload_n 0, 1) := by decide +kernel
theorem dX0_judgeDepth_31 : decode cX0_judgeDepth 31 = .ok (.iload_n 1, 1) := by decide +kernel
theorem dX0_judgeDepth_32 : decode cX0_judgeDepth 32 = .ok (.iconst 1, 1) := by decide +kernel
theorem dX0_judgeDepth_33 : decode cX0_judgeDepth 33 = .ok (.iadd, 1) := by decide +kernel
theorem dX0_judgeDepth_34 : decode cX0_judgeDepth 34 = .ok (.iload 4, 2) := by decide +kernel
theorem dX0_judgeDepth_36 : decode cX0_judgeDepth 36 = .ok (.invokevirtual 33, 3) := by decide +kernel
theorem dX0_judgeDepth_39 : decode cX0_judgeDepth 39 = .ok (.istore 5, 2) := by decide +kernel
theorem dX0_judgeDepth_41 : decode cX0_judgeDepth 41 = .ok (.aload_n 0, 1) := by decide +kernel
theorem dX0_judgeDepth_42 : decode cX0_judgeDepth 42 = .ok (.iload_n 1, 1) := by decide +kernel
theorem dX0_judgeDepth_43 : decode cX0_judgeDepth 43 = .ok (.iconst 1, 1) := by decide +kernel
theorem dX0_judgeDepth_44 : decode cX0_judgeDepth 44 = .ok (.iadd, 1) := by decide +kernel
theorem dX0_judgeDepth_45 : decode cX0_judgeDepth 45 = .ok (.iload 4, 2) := by decide +kernel
theorem dX0_judgeDepth_47 : decode cX0_judgeDepth 47 = .ok (.iload_n 3, 1) := by decide +kernel
theorem dX0_judgeDepth_48 : decode cX0_judgeDepth 48 = .ok (.ior, 1) := by decide +kernel
theorem dX0_judgeDepth_49 : decode cX0_judgeDepth 49 = .ok (.invokevirtual 33, 3) := by decide +kernel
theorem dX0_judgeDepth_52 : decode cX0_judgeDepth 52 = .ok (.istore 6, 2) := by decide +kernel
theorem dX0_judgeDepth_54 : decode cX0_judgeDepth 54 = .ok (.aload_n 0, 1) := by decide +kernel
theorem dX0_judgeDepth_55 : decode cX0_judgeDepth 55 = .ok (.getfield 20, 3) := by decide +kernel
theorem dX0_judgeDepth_58 : decode cX0_judgeDepth 58 = .ok (.iload_n 3, 1) := by decide +kernel
theorem dX0_judgeDepth_59 : decode cX0_judgeDepth 59 = .ok (.iload 4, 2) := by decide +kernel
theorem dX0_judgeDepth_61 : decode cX0_judgeDepth 61 = .ok (.iadd, 1) := by decide +kernel
theorem dX0_judgeDepth_62 : decode cX0_judgeDepth 62 = .ok (.iload_n 2, 1) := by decide +kernel
theorem dX0_judgeDepth_63 : decode cX0_judgeDepth 63 = .ok (.ifCond .eq 21, 3) := by decide +kernel
theorem dX0_judgeDepth_66 : decode cX0_judgeDepth 66 = .ok (.iload 5, 2) := by decide +kernel
theorem dX0_judgeDepth_68 : decode cX0_judgeDepth 68 = .ok (.ifCond .ne 8, 3) := by decide +kernel
theorem dX0_judgeDepth_71 : decode cX0_judgeDepth 71 = .ok (.iload 6, 2) := by decide +kernel
theorem dX0_judgeDepth_73 : decode cX0_judgeDepth 73 = .ok (.ifCond .eq 7, 3) := by decide +kernel
theorem dX0_judgeDepth_76 : decode cX0_judgeDepth 76 = .ok (.iconst 1, 1) := by decide +kernel
theorem dX0_judgeDepth_77 : decode cX0_judgeDepth 77 = .ok (.goto 22, 3) := by decide +kernel
theorem dX0_judgeDepth_80 : decode cX0_judgeDepth 80 = .ok (.iconst 0, 1) := by decide +kernel
theorem dX0_judgeDepth_81 : decode cX0_judgeDepth 81 = .ok (.goto 18, 3) := by decide +kernel
theorem dX0_judgeDepth_84 : decode cX0_judgeDepth 84 = .ok (.iload 5, 2) := by decide +kernel
theorem dX0_judgeDepth_86 : decode cX0_judgeDepth 86 = .ok (.ifCond .eq 12, 3) := by decide +kernel
theorem dX0_judgeDepth_89 : decode cX0_judgeDepth 89 = .ok (.iload 6, 2) := by decide +kernel
theorem dX0_judgeDepth_91 : decode cX0_judgeDepth 91 = .ok (.ifCond .eq 7, 3) := by decide +kernel
theorem dX0_judgeDepth_94 : decode cX0_judgeDepth 94 = .ok (.iconst 1, 1) := by decide +kernel
theorem dX0_judgeDepth_95 : decode cX0_judgeDepth 95 = .ok (.goto 4, 3) := by decide +kernel
theorem dX0_judgeDepth_98 : decode cX0_judgeDepth 98 = .ok (.iconst 0, 1) := by decide +kernel
theorem dX0_judgeDepth_99 : decode cX0_judgeDepth 99 = .ok (.bastore, 1) := by decide +kernel
theorem dX0_judgeDepth_100 : decode cX0_judgeDepth 100 = .ok (.iinc 4 1, 3) := by decide +kernel
theorem dX0_judgeDepth_103 : decode cX0_judgeDepth 103 = .ok (.goto (-79), 3) := by decide +kernel
theorem dX0_judgeDepth_106 : decode cX0_judgeDepth 106 = .ok (.return_, 1) := by decide +kernel
theorem dX0_eveWinsAt_0 : decode cX0_eveWinsAt 0 = .ok (.aload_n 0, 1) := by decide +kernel
theorem dX0_eveWinsAt_1 : decode cX0_eveWinsAt 1 = .ok (.getfield 20, 3) := by decide +kernel
theorem dX0_eveWinsAt_4 : decode cX0_eveWinsAt 4 = .ok (.iconst 1, 1) := by decide +kernel
theorem dX0_eveWinsAt_5 : decode cX0_eveWinsAt 5 = .ok (.iload_n 1, 1) := by decide +kernel
theorem dX0_eveWinsAt_6 : decode cX0_eveWinsAt 6 = .ok (.ishl, 1) := by decide +kernel
theorem dX0_eveWinsAt_7 : decode cX0_eveWinsAt 7 = .ok (.iload_n 2, 1) := by decide +kernel
theorem dX0_eveWinsAt_8 : decode cX0_eveWinsAt 8 = .ok (.iadd, 1) := by decide +kernel
theorem dX0_eveWinsAt_9 : decode cX0_eveWinsAt 9 = .ok (.baload, 1) := by decide +kernel
theorem dX0_eveWinsAt_10 : decode cX0_eveWinsAt 10 = .ok (.ireturn, 1) := by decide +kernel
theorem dX1_variables_0 : decode cX1_variables 0 = .ok (.aload_n 0, 1) := by decide +kernel
theorem dX1_variables_1 : decode cX1_variables 1 = .ok (.getfield 18, 3) := by decide +kernel
theorem dX1_variables_4 : decode cX1_variables 4 = .ok (.ireturn, 1) := by decide +kernel
theorem dX1_adams_0 : decode cX1_adams 0 = .ok (.aload_n 0, 1) := by decide +kernel
theorem dX1_adams_1 : decode cX1_adams 1 = .ok (.getfield 25, 3) := by decide +kernel
theorem dX1_adams_4 : decode cX1_adams 4 = .ok (.ireturn, 1) := by decide +kernel
theorem dX1_add_0 : decode cX1_add 0 = .ok (.aload_n 0, 1) := by decide +kernel
theorem dX1_add_1 : decode cX1_add 1 = .ok (.iload_n 1, 1) := by decide +kernel
theorem dX1_add_2 : decode cX1_add 2 = .ok (.iload_n 2, 1) := by decide +kernel
theorem dX1_add_3 : decode cX1_add 3 = .ok (.invokevirtual 50, 3) := by decide +kernel
theorem dX1_add_6 : decode cX1_add 6 = .ok (.ifCond .ne 5, 3) := by decide +kernel
theorem dX1_add_9 : decode cX1_add 9 = .ok (.iconst (-1), 1) := by decide +kernel
theorem dX1_add_10 : decode cX1_add 10 = .ok (.ireturn, 1) := by decide +kernel
theorem dX1_add_11 : decode cX1_add 11 = .ok (.aload_n 0, 1) := by decide +kernel
theorem dX1_add_12 : decode cX1_add 12 = .ok (.getfield 54, 3) := by decide +kernel
theorem dX1_add_15 : decode cX1_add 15 = .ok (.bipush 24, 2) := by decide +kernel
theorem dX1_add_17 : decode cX1_add 17 = .ok (.if_icmp .lt 6, 3) := by decide +kernel
theorem dX1_add_20 : decode cX1_add 20 = .ok (.bipush (-2), 2) := by decide +kernel
theorem dX1_add_22 : decode cX1_add 22 = .ok (.ireturn, 1) := by decide +kernel
theorem dX1_add_23 : decode cX1_add 23 = .ok (.aload_n 0, 1) := by decide +kernel
theorem dX1_add_24 : decode cX1_add 24 = .ok (.getfield 40, 3) := by decide +kernel
theorem dX1_add_27 : decode cX1_add 27 = .ok (.aload_n 0, 1) := by decide +kernel
theorem dX1_add_28 : decode cX1_add 28 = .ok (.getfield 54, 3) := by decide +kernel
theorem dX1_add_31 : decode cX1_add 31 = .ok (.iload_n 1, 1) := by decide +kernel
theorem dX1_add_32 : decode cX1_add 32 = .ok (.iastore, 1) := by decide +kernel
theorem dX1_add_33 : decode cX1_add 33 = .ok (.aload_n 0, 1) := by decide +kernel
theorem dX1_add_34 : decode cX1_add 34 = .ok (.getfield 44, 3) := by decide +kernel
theorem dX1_add_37 : decode cX1_add 37 = .ok (.aload_n 0, 1) := by decide +kernel
theorem dX1_add_38 : decode cX1_add 38 = .ok (.getfield 54, 3) := by decide +kernel
theorem dX1_add_41 : decode cX1_add 41 = .ok (.iload_n 2, 1) := by decide +kernel
theorem dX1_add_42 : decode cX1_add 42 = .ok (.iastore, 1) := by decide +kernel
theorem dX1_add_43 : decode cX1_add 43 = .ok (.aload_n 0, 1) := by decide +kernel
theorem dX1_add_44 : decode cX1_add 44 = .ok (.dup, 1) := by decide +kernel
theorem dX1_add_45 : decode cX1_add 45 = .ok (.getfield 54, 3) := by decide +kernel
theorem dX1_add_48 : decode cX1_add 48 = .ok (.iconst 1, 1) := by decide +kernel
theorem dX1_add_49 : decode cX1_add 49 = .ok (.iadd, 1) := by decide +kernel
theorem dX1_add_50 : decode cX1_add 50 = .ok (.putfield 54, 3) := by decide +kernel
theorem dX1_add_53 : decode cX1_add 53 = .ok (.aload_n 0, 1) := by decide +kernel
theorem dX1_add_54 : decode cX1_add 54 = .ok (.getfield 36, 3) := by decide +kernel
theorem dX1_add_57 : decode cX1_add 57 = .ok (.iload_n 1, 1) := by decide +kernel
theorem dX1_add_58 : decode cX1_add 58 = .ok (.iload_n 2, 1) := by decide +kernel
theorem dX1_add_59 : decode cX1_add 59 = .ok (.iconst 1, 1) := by decide +kernel
theorem dX1_add_60 : decode cX1_add 60 = .ok (.invokevirtual 57, 3) := by decide +kernel
theorem dX1_add_63 : decode cX1_add 63 = .ok (.aload_n 0, 1) := by decide +kernel
theorem dX1_add_64 : decode cX1_add 64 = .ok (.getfield 54, 3) := by decide +kernel
theorem dX1_add_67 : decode cX1_add 67 = .ok (.iconst 1, 1) := by decide +kernel
theorem dX1_add_68 : decode cX1_add 68 = .ok (.isub, 1) := by decide +kernel
theorem dX1_add_69 : decode cX1_add 69 = .ok (.ireturn, 1) := by decide +kernel
theorem dX1_areSets_0 : decode cX1_areSets 0 = .ok (.iload_n 1, 1) := by decide +kernel
theorem dX1_areSets_1 : decode cX1_areSets 1 = .ok (.iload_n 2, 1) := by decide +kernel
theorem dX1_areSets_2 : decode cX1_areSets 2 = .ok (.ior, 1) := by decide +kernel
theorem dX1_areSets_3 : decode cX1_areSets 3 = .ok (.aload_n 0, 1) := by decide +kernel
theorem dX1_areSets_4 : decode cX1_areSets 4 = .ok (.getfield 18, 3) := by decide +kernel
theorem dX1_areSets_7 : decode cX1_areSets 7 = .ok (.iushr, 1) := by decide +kernel
theorem dX1_areSets_8 : decode cX1_areSets 8 = .ok (.ifCond .ne 7, 3) := by decide +kernel
theorem dX1_areSets_11 : decode cX1_areSets 11 = .ok (.iconst 1, 1) := by decide +kernel
theorem dX1_areSets_12 : decode cX1_areSets 12 = .ok (.goto 4, 3) := by decide +kernel
theorem dX1_areSets_15 : decode cX1_areSets 15 = .ok (.iconst 0, 1) := by decide +kernel
theorem dX1_areSets_16 : decode cX1_areSets 16 = .ok (.ireturn, 1) := by decide +kernel
theorem dX0_change_0 : decode cX0_change 0 = .ok (.iconst 0, 1) := by decide +kernel
theorem dX0_change_1 : decode cX0_change 1 = .ok (.istore 4, 2) := by decide +kernel
theorem dX0_change_3 : decode cX0_change 3 = .ok (.iload 4, 2) := by decide +kernel
theorem dX0_change_5 : decode cX0_change 5 = .ok (.aload_n 0, 1) := by decide +kernel
theorem dX0_change_6 : decode cX0_change 6 = .ok (.getfield 16, 3) := by decide +kernel
theorem dX0_change_9 : decode cX0_change 9 = .ok (.arraylength, 1) := by decide +kernel
theorem dX0_change_10 : decode cX0_change 10 = .ok (.if_icmp .ge 35, 3) := by decide +kernel
theorem dX0_change_13 : decode cX0_change 13 = .ok (.iload 4, 2) := by decide +kernel
theorem dX0_change_15 : decode cX0_change 15 = .ok (.iload_n 1, 1) := by decide +kernel
theorem dX0_change_16 : decode cX0_change 16 = .ok (.iand, 1) := by decide +kernel
theorem dX0_change_17 : decode cX0_change 17 = .ok (.ifCond .ne 22, 3) := by decide +kernel
theorem dX0_change_20 : decode cX0_change 20 = .ok (.iload 4, 2) := by decide +kernel
theorem dX0_change_22 : decode cX0_change 22 = .ok (.iload_n 2, 1) := by decide +kernel
theorem dX0_change_23 : decode cX0_change 23 = .ok (.iand, 1) := by decide +kernel
theorem dX0_change_24 : decode cX0_change 24 = .ok (.iload_n 2, 1) := by decide +kernel
theorem dX0_change_25 : decode cX0_change 25 = .ok (.if_icmp .ne 14, 3) := by decide +kernel
theorem dX0_change_28 : decode cX0_change 28 = .ok (.aload_n 0, 1) := by decide +kernel
theorem dX0_change_29 : decode cX0_change 29 = .ok (.getfield 16, 3) := by decide +kernel
theorem dX0_change_32 : decode cX0_change 32 = .ok (.iload 4, 2) := by decide +kernel
theorem dX0_change_34 : decode cX0_change 34 = .ok (.dup2, 1) := by decide +kernel
theorem dX0_change_35 : decode cX0_change 35 = .ok (.iaload, 1) := by decide +kernel
theorem dX0_change_36 : decode cX0_change 36 = .ok (.iload_n 3, 1) := by decide +kernel
theorem dX0_change_37 : decode cX0_change 37 = .ok (.iadd, 1) := by decide +kernel
theorem dX0_change_38 : decode cX0_change 38 = .ok (.iastore, 1) := by decide +kernel
theorem dX0_change_39 : decode cX0_change 39 = .ok (.iinc 4 1, 3) := by decide +kernel
theorem dX0_change_42 : decode cX0_change 42 = .ok (.goto (-39), 3) := by decide +kernel
theorem dX0_change_45 : decode cX0_change 45 = .ok (.aload_n 0, 1) := by decide +kernel
theorem dX0_change_46 : decode cX0_change 46 = .ok (.invokevirtual 24, 3) := by decide +kernel
theorem dX0_change_49 : decode cX0_change 49 = .ok (.return_, 1) := by decide +kernel
theorem dX1_drop_0 : decode cX1_drop 0 = .ok (.aload_n 0, 1) := by decide +kernel
theorem dX1_drop_1 : decode cX1_drop 1 = .ok (.iload_n 1, 1) := by decide +kernel
theorem dX1_drop_2 : decode cX1_drop 2 = .ok (.invokevirtual 61, 3) := by decide +kernel
theorem dX1_drop_5 : decode cX1_drop 5 = .ok (.ifCond .ne 5, 3) := by decide +kernel
theorem dX1_drop_8 : decode cX1_drop 8 = .ok (.iconst 0, 1) := by decide +kernel
theorem dX1_drop_9 : decode cX1_drop 9 = .ok (.ireturn, 1) := by decide +kernel
theorem dX1_drop_10 : decode cX1_drop 10 = .ok (.aload_n 0, 1) := by decide +kernel
theorem dX1_drop_11 : decode cX1_drop 11 = .ok (.getfield 36, 3) := by decide +kernel
theorem dX1_drop_14 : decode cX1_drop 14 = .ok (.aload_n 0, 1) := by decide +kernel
theorem dX1_drop_15 : decode cX1_drop 15 = .ok (.getfield 40, 3) := by decide +kernel
theorem dX1_drop_18 : decode cX1_drop 18 = .ok (.iload_n 1, 1) := by decide +kernel
theorem dX1_drop_19 : decode cX1_drop 19 = .ok (.iaload, 1) := by decide +kernel
theorem dX1_drop_20 : decode cX1_drop 20 = .ok (.aload_n 0, 1) := by decide +kernel
theorem dX1_drop_21 : decode cX1_drop 21 = .ok (.getfield 44, 3) := by decide +kernel
theorem dX1_drop_24 : decode cX1_drop 24 = .ok (.iload_n 1, 1) := by decide +kernel
theorem dX1_drop_25 : decode cX1_drop 25 = .ok (.iaload, 1) := by decide +kernel
theorem dX1_drop_26 : decode cX1_drop 26 = .ok (.iconst (-1), 1) := by decide +kernel
theorem dX1_drop_27 : decode cX1_drop 27 = .ok (.invokevirtual 57, 3) := by decide +kernel
theorem dX1_drop_30 : decode cX1_drop 30 = .ok (.aload_n 0, 1) := by decide +kernel
theorem dX1_drop_31 : decode cX1_drop 31 = .ok (.dup, 1) := by decide +kernel
theorem dX1_drop_32 : decode cX1_drop 32 = .ok (.getfield 54, 3) := by decide +kernel
theorem dX1_drop_35 : decode cX1_drop 35 = .ok (.iconst 1, 1) := by decide +kernel
theorem dX1_drop_36 : decode cX1_drop 36 = .ok (.isub, 1) := by decide +kernel
theorem dX1_drop_37 : decode cX1_drop 37 = .ok (.putfield 54, 3) := by decide +kernel
theorem dX1_drop_40 : decode cX1_drop 40 = .ok (.iload_n 1, 1) := by decide +kernel
theorem dX1_drop_41 : decode cX1_drop 41 = .ok (.istore_n 2, 1) := by decide +kernel
theorem dX1_drop_42 : decode cX1_drop 42 = .ok (.iload_n 2, 1) := by decide +kernel
theorem dX1_drop_43 : decode cX1_drop 43 = .ok (.aload_n 0, 1) := by decide +kernel
theorem dX1_drop_44 : decode cX1_drop 44 = .ok (.getfield 54, 3) := by decide +kernel
theorem dX1_drop_47 : decode cX1_drop 47 = .ok (.if_icmp .ge 37, 3) := by decide +kernel
theorem dX1_drop_50 : decode cX1_drop 50 = .ok (.aload_n 0, 1) := by decide +kernel
theorem dX1_drop_51 : decode cX1_drop 51 = .ok (.getfield 40, 3) := by decide +kernel
theorem dX1_drop_54 : decode cX1_drop 54 = .ok (.iload_n 2, 1) := by decide +kernel
theorem dX1_drop_55 : decode cX1_drop 55 = .ok (.aload_n 0, 1) := by decide +kernel
theorem dX1_drop_56 : decode cX1_drop 56 = .ok (.getfield 40, 3) := by decide +kernel
theorem dX1_drop_59 : decode cX1_drop 59 = .ok (.iload_n 2, 1) := by decide +kernel
theorem dX1_drop_60 : decode cX1_drop 60 = .ok (.iconst 1, 1) := by decide +kernel
theorem dX1_drop_61 : decode cX1_drop 61 = .ok (.iadd, 1) := by decide +kernel
theorem dX1_drop_62 : decode cX1_drop 62 = .ok (.iaload, 1) := by decide +kernel
theorem dX1_drop_63 : decode cX1_drop 63 = .ok (.iastore, 1) := by decide +kernel
theorem dX1_drop_64 : decode cX1_drop 64 = .ok (.aload_n 0, 1) := by decide +kernel
theorem dX1_drop_65 : decode cX1_drop 65 = .ok (.getfield 44, 3) := by decide +kernel
theorem dX1_drop_68 : decode cX1_drop 68 = .ok (.iload_n 2, 1) := by decide +kernel
theorem dX1_drop_69 : decode cX1_drop 69 = .ok (.aload_n 0, 1) := by decide +kernel
theorem dX1_drop_70 : decode cX1_drop 70 = .ok (.getfield 44, 3) := by decide +kernel
theorem dX1_drop_73 : decode cX1_drop 73 = .ok (.iload_n 2, 1) := by decide +kernel
theorem dX1_drop_74 : decode cX1_drop 74 = .ok (.iconst 1, 1) := by decide +kernel
theorem dX1_drop_75 : decode cX1_drop 75 = .ok (.iadd, 1) := by decide +kernel
theorem dX1_drop_76 : decode cX1_drop 76 = .ok (.iaload, 1) := by decide +kernel
theorem dX1_drop_77 : decode cX1_drop 77 = .ok (.iastore, 1) := by decide +kernel
theorem dX1_drop_78 : decode cX1_drop 78 = .ok (.iinc 2 1, 3) := by decide +kernel
theorem dX1_drop_81 : decode cX1_drop 81 = .ok (.goto (-39), 3) := by decide +kernel
theorem dX1_drop_84 : decode cX1_drop 84 = .ok (.iconst 1, 1) := by decide +kernel
theorem dX1_drop_85 : decode cX1_drop 85 = .ok (.ireturn, 1) := by decide +kernel
theorem dX1_isClause_0 : decode cX1_isClause 0 = .ok (.iload_n 1, 1) := by decide +kernel
theorem dX1_isClause_1 : decode cX1_isClause 1 = .ok (.ifCond .lt 15, 3) := by decide +kernel
theorem dX1_isClause_4 : decode cX1_isClause 4 = .ok (.iload_n 1, 1) := by decide +kernel
theorem dX1_isClause_5 : decode cX1_isClause 5 = .ok (.aload_n 0, 1) := by decide +kernel
theorem dX1_isClause_6 : decode cX1_isClause 6 = .ok (.getfield 54, 3) := by decide +kernel
theorem dX1_isClause_9 : decode cX1_isClause 9 = .ok (.if_icmp .ge 7, 3) := by decide +kernel
theorem dX1_isClause_12 : decode cX1_isClause 12 = .ok (.iconst 1, 1) := by decide +kernel
theorem dX1_isClause_13 : decode cX1_isClause 13 = .ok (.goto 4, 3) := by decide +kernel
theorem dX1_isClause_16 : decode cX1_isClause 16 = .ok (.iconst 0, 1) := by decide +kernel
theorem dX1_isClause_17 : decode cX1_isClause 17 = .ok (.ireturn, 1) := by decide +kernel
theorem dX1_clauses_0 : decode cX1_clauses 0 = .ok (.aload_n 0, 1) := by decide +kernel
theorem dX1_clauses_1 : decode cX1_clauses 1 = .ok (.getfield 54, 3) := by decide +kernel
theorem dX1_clauses_4 : decode cX1_clauses 4 = .ok (.ireturn, 1) := by decide +kernel
theorem dX1_play_0 : decode cX1_play 0 = .ok (.iload_n 1, 1) := by decide +kernel
theorem dX1_play_1 : decode cX1_play 1 = .ok (.ifCond .eq 8, 3) := by decide +kernel
theorem dX1_play_4 : decode cX1_play 4 = .ok (.iload_n 1, 1) := by decide +kernel
theorem dX1_play_5 : decode cX1_play 5 = .ok (.iconst 1, 1) := by decide +kernel
theorem dX1_play_6 : decode cX1_play 6 = .ok (.if_icmp .ne 14, 3) := by decide +kernel
theorem dX1_play_9 : decode cX1_play 9 = .ok (.aload_n 0, 1) := by decide +kernel
theorem dX1_play_10 : decode cX1_play 10 = .ok (.getfield 65, 3) := by decide +kernel
theorem dX1_play_13 : decode cX1_play 13 = .ok (.aload_n 0, 1) := by decide +kernel
theorem dX1_play_14 : decode cX1_play 14 = .ok (.getfield 18, 3) := by decide +kernel
theorem dX1_play_17 : decode cX1_play 17 = .ok (.if_icmp .lt 5, 3) := by decide +kernel
theorem dX1_play_20 : decode cX1_play 20 = .ok (.iconst (-1), 1) := by decide +kernel
theorem dX1_play_21 : decode cX1_play 21 = .ok (.ireturn, 1) := by decide +kernel
theorem dX1_play_22 : decode cX1_play 22 = .ok (.aload_n 0, 1) := by decide +kernel
theorem dX1_play_23 : decode cX1_play 23 = .ok (.dup, 1) := by decide +kernel
theorem dX1_play_24 : decode cX1_play 24 = .ok (.getfield 68, 3) := by decide +kernel
theorem dX1_play_27 : decode cX1_play 27 = .ok (.iload_n 1, 1) := by decide +kernel
theorem dX1_play_28 : decode cX1_play 28 = .ok (.aload_n 0, 1) := by decide +kernel
theorem dX1_play_29 : decode cX1_play 29 = .ok (.getfield 65, 3) := by decide +kernel
theorem dX1_play_32 : decode cX1_play 32 = .ok (.ishl, 1) := by decide +kernel
theorem dX1_play_33 : decode cX1_play 33 = .ok (.ior, 1) := by decide +kernel
theorem dX1_play_34 : decode cX1_play 34 = .ok (.putfield 68, 3) := by decide +kernel
theorem dX1_play_37 : decode cX1_play 37 = .ok (.aload_n 0, 1) := by decide +kernel
theorem dX1_play_38 : decode cX1_play 38 = .ok (.dup, 1) := by decide +kernel
theorem dX1_play_39 : decode cX1_play 39 = .ok (.getfield 65, 3) := by decide +kernel
theorem dX1_play_42 : decode cX1_play 42 = .ok (.iconst 1, 1) := by decide +kernel
theorem dX1_play_43 : decode cX1_play 43 = .ok (.iadd, 1) := by decide +kernel
theorem dX1_play_44 : decode cX1_play 44 = .ok (.putfield 65, 3) := by decide +kernel
theorem dX1_play_47 : decode cX1_play 47 = .ok (.aload_n 0, 1) := by decide +kernel
theorem dX1_play_48 : decode cX1_play 48 = .ok (.getfield 65, 3) := by decide +kernel
theorem dX1_play_51 : decode cX1_play 51 = .ok (.iconst 1, 1) := by decide +kernel
theorem dX1_play_52 : decode cX1_play 52 = .ok (.isub, 1) := by decide +kernel
theorem dX1_play_53 : decode cX1_play 53 = .ok (.ireturn, 1) := by decide +kernel
theorem dX1_undo_0 : decode cX1_undo 0 = .ok (.aload_n 0, 1) := by decide +kernel
theorem dX1_undo_1 : decode cX1_undo 1 = .ok (.getfield 65, 3) := by decide +kernel
theorem dX1_undo_4 : decode cX1_undo 4 = .ok (.ifCond .gt 5, 3) := by decide +kernel
theorem dX1_undo_7 : decode cX1_undo 7 = .ok (.iconst 0, 1) := by decide +kernel
theorem dX1_undo_8 : decode cX1_undo 8 = .ok (.ireturn, 1) := by decide +kernel
theorem dX1_undo_9 : decode cX1_undo 9 = .ok (.aload_n 0, 1) := by decide +kernel
theorem dX1_undo_10 : decode cX1_undo 10 = .ok (.dup, 1) := by decide +kernel
theorem dX1_undo_11 : decode cX1_undo 11 = .ok (.getfield 65, 3) := by decide +kernel
theorem dX1_undo_14 : decode cX1_undo 14 = .ok (.iconst 1, 1) := by decide +kernel
theorem dX1_undo_15 : decode cX1_undo 15 = .ok (.isub, 1) := by decide +kernel
theorem dX1_undo_16 : decode cX1_undo 16 = .ok (.putfield 65, 3) := by decide +kernel
theorem dX1_undo_19 : decode cX1_undo 19 = .ok (.aload_n 0, 1) := by decide +kernel
theorem dX1_undo_20 : decode cX1_undo 20 = .ok (.dup, 1) := by decide +kernel
theorem dX1_undo_21 : decode cX1_undo 21 = .ok (.getfield 68, 3) := by decide +kernel
theorem dX1_undo_24 : decode cX1_undo 24 = .ok (.iconst 1, 1) := by decide +kernel
theorem dX1_undo_25 : decode cX1_undo 25 = .ok (.aload_n 0, 1) := by decide +kernel
theorem dX1_undo_26 : decode cX1_undo 26 = .ok (.getfield 65, 3) := by decide +kernel
theorem dX1_undo_29 : decode cX1_undo 29 = .ok (.ishl, 1) := by decide +kernel
theorem dX1_undo_30 : decode cX1_undo 30 = .ok (.iconst (-1), 1) := by decide +kernel
theorem dX1_undo_31 : decode cX1_undo 31 = .ok (.ixor, 1) := by decide +kernel
theorem dX1_undo_32 : decode cX1_undo 32 = .ok (.iand, 1) := by decide +kernel
theorem dX1_undo_33 : decode cX1_undo 33 = .ok (.putfield 68, 3) := by decide +kernel
theorem dX1_undo_36 : decode cX1_undo 36 = .ok (.iconst 1, 1) := by decide +kernel
theorem dX1_undo_37 : decode cX1_undo 37 = .ok (.ireturn, 1) := by decide +kernel
theorem dX1_played_0 : decode cX1_played 0 = .ok (.aload_n 0, 1) := by decide +kernel
theorem dX1_played_1 : decode cX1_played 1 = .ok (.getfield 65, 3) := by decide +kernel
theorem dX1_played_4 : decode cX1_played 4 = .ok (.ireturn, 1) := by decide +kernel
theorem dX1_wins_0 : decode cX1_wins 0 = .ok (.aload_n 0, 1) := by decide +kernel
theorem dX1_wins_1 : decode cX1_wins 1 = .ok (.getfield 36, 3) := by decide +kernel
theorem dX1_wins_4 : decode cX1_wins 4 = .ok (.aload_n 0, 1) := by decide +kernel
theorem dX1_wins_5 : decode cX1_wins 5 = .ok (.getfield 65, 3) := by decide +kernel
theorem dX1_wins_8 : decode cX1_wins 8 = .ok (.aload_n 0, 1) := by decide +kernel
theorem dX1_wins_9 : decode cX1_wins 9 = .ok (.getfield 68, 3) := by decide +kernel
theorem dX1_wins_12 : decode cX1_wins 12 = .ok (.invokevirtual 71, 3) := by decide +kernel
theorem dX1_wins_15 : decode cX1_wins 15 = .ok (.ireturn, 1) := by decide +kernel
theorem dX1_best_0 : decode cX1_best 0 = .ok (.aload_n 0, 1) := by decide +kernel
theorem dX1_best_1 : decode cX1_best 1 = .ok (.getfield 65, 3) := by decide +kernel
theorem dX1_best_4 : decode cX1_best 4 = .ok (.aload_n 0, 1) := by decide +kernel
theorem dX1_best_5 : decode cX1_best 5 = .ok (.getfield 18, 3) := by decide +kernel
theorem dX1_best_8 : decode cX1_best 8 = .ok (.if_icmp .lt 7, 3) := by decide +kernel
theorem dX1_best_11 : decode cX1_best 11 = .ok (.iconst (-1), 1) := by decide +kernel
theorem dX1_best_12 : decode cX1_best 12 = .ok (.goto 18, 3) := by decide +kernel
theorem dX1_best_15 : decode cX1_best 15 = .ok (.aload_n 0, 1) := by decide +kernel
theorem dX1_best_16 : decode cX1_best 16 = .ok (.getfield 36, 3) := by decide +kernel
theorem dX1_best_19 : decode cX1_best 19 = .ok (.aload_n 0, 1) := by decide +kernel
theorem dX1_best_20 : decode cX1_best 20 = .ok (.getfield 65, 3) := by decide +kernel
theorem dX1_best_23 : decode cX1_best 23 = .ok (.aload_n 0, 1) := by decide +kernel
theorem dX1_best_24 : decode cX1_best 24 = .ok (.getfield 68, 3) := by decide +kernel
theorem dX1_best_27 : decode cX1_best 27 = .ok (.invokevirtual 74, 3) := by decide +kernel
theorem dX1_best_30 : decode cX1_best 30 = .ok (.ireturn, 1) := by decide +kernel
theorem dX0_bestMove_0 : decode cX0_bestMove 0 = .ok (.aload_n 0, 1) := by decide +kernel
theorem dX0_bestMove_1 : decode cX0_bestMove 1 = .ok (.getfield 13, 3) := by decide +kernel
theorem dX0_bestMove_4 : decode cX0_bestMove 4 = .ok (.iload_n 1, 1) := by decide +kernel
theorem dX0_bestMove_5 : decode cX0_bestMove 5 = .ok (.invokestatic 27, 3) := by decide +kernel
theorem dX0_bestMove_8 : decode cX0_bestMove 8 = .ok (.ifCond .ne 7, 3) := by decide +kernel
theorem dX0_bestMove_11 : decode cX0_bestMove 11 = .ok (.iconst 1, 1) := by decide +kernel
theorem dX0_bestMove_12 : decode cX0_bestMove 12 = .ok (.goto 4, 3) := by decide +kernel
theorem dX0_bestMove_15 : decode cX0_bestMove 15 = .ok (.iconst 0, 1) := by decide +kernel
theorem dX0_bestMove_16 : decode cX0_bestMove 16 = .ok (.istore_n 3, 1) := by decide +kernel
theorem dX0_bestMove_17 : decode cX0_bestMove 17 = .ok (.aload_n 0, 1) := by decide +kernel
theorem dX0_bestMove_18 : decode cX0_bestMove 18 = .ok (.iload_n 1, 1) := by decide +kernel
theorem dX0_bestMove_19 : decode cX0_bestMove 19 = .ok (.iconst 1, 1) := by decide +kernel
theorem dX0_bestMove_20 : decode cX0_bestMove 20 = .ok (.iadd, 1) := by decide +kernel
theorem dX0_bestMove_21 : decode cX0_bestMove 21 = .ok (.iload_n 2, 1) := by decide +kernel
theorem dX0_bestMove_22 : decode cX0_bestMove 22 = .ok (.invokevirtual 33, 3) := by decide +kernel
theorem dX0_bestMove_25 : decode cX0_bestMove 25 = .ok (.iload_n 3, 1) := by decide +kernel
theorem dX0_bestMove_26 : decode cX0_bestMove 26 = .ok (.if_icmp .ne 7, 3) := by decide +kernel
theorem dX0_bestMove_29 : decode cX0_bestMove 29 = .ok (.iconst 1, 1) := by decide +kernel
theorem dX0_bestMove_30 : decode cX0_bestMove 30 = .ok (.goto 4, 3) := by decide +kernel
theorem dX0_bestMove_33 : decode cX0_bestMove 33 = .ok (.iconst 0, 1) := by decide +kernel
theorem dX0_bestMove_34 : decode cX0_bestMove 34 = .ok (.istore 4, 2) := by decide +kernel
theorem dX0_bestMove_36 : decode cX0_bestMove 36 = .ok (.aload_n 0, 1) := by decide +kernel
theorem dX0_bestMove_37 : decode cX0_bestMove 37 = .ok (.iload_n 1, 1) := by decide +kernel
theorem dX0_bestMove_38 : decode cX0_bestMove 38 = .ok (.iconst 1, 1) := by decide +kernel
theorem dX0_bestMove_39 : decode cX0_bestMove 39 = .ok (.iadd, 1) := by decide +kernel
theorem dX0_bestMove_40 : decode cX0_bestMove 40 = .ok (.iload_n 2, 1) := by decide +kernel
theorem dX0_bestMove_41 : decode cX0_bestMove 41 = .ok (.iconst 1, 1) := by decide +kernel
theorem dX0_bestMove_42 : decode cX0_bestMove 42 = .ok (.iload_n 1, 1) := by decide +kernel
theorem dX0_bestMove_43 : decode cX0_bestMove 43 = .ok (.ishl, 1) := by decide +kernel
theorem dX0_bestMove_44 : decode cX0_bestMove 44 = .ok (.ior, 1) := by decide +kernel
theorem dX0_bestMove_45 : decode cX0_bestMove 45 = .ok (.invokevirtual 33, 3) := by decide +kernel
theorem dX0_bestMove_48 : decode cX0_bestMove 48 = .ok (.iload_n 3, 1) := by decide +kernel
theorem dX0_bestMove_49 : decode cX0_bestMove 49 = .ok (.if_icmp .ne 7, 3) := by decide +kernel
theorem dX0_bestMove_52 : decode cX0_bestMove 52 = .ok (.iconst 1, 1) := by decide +kernel
theorem dX0_bestMove_53 : decode cX0_bestMove 53 = .ok (.goto 4, 3) := by decide +kernel
theorem dX0_bestMove_56 : decode cX0_bestMove 56 = .ok (.iconst 0, 1) := by decide +kernel
theorem dX0_bestMove_57 : decode cX0_bestMove 57 = .ok (.istore 5, 2) := by decide +kernel
theorem dX0_bestMove_59 : decode cX0_bestMove 59 = .ok (.iload 4, 2) := by decide +kernel
theorem dX0_bestMove_61 : decode cX0_bestMove 61 = .ok (.ifCond .ne 12, 3) := by decide +kernel
theorem dX0_bestMove_64 : decode cX0_bestMove 64 = .ok (.iload 5, 2) := by decide +kernel
theorem dX0_bestMove_66 : decode cX0_bestMove 66 = .ok (.ifCond .eq 7, 3) := by decide +kernel
theorem dX0_bestMove_69 : decode cX0_bestMove 69 = .ok (.iconst 1, 1) := by decide +kernel
theorem dX0_bestMove_70 : decode cX0_bestMove 70 = .ok (.goto 4, 3) := by decide +kernel
theorem dX0_bestMove_73 : decode cX0_bestMove 73 = .ok (.iconst 0, 1) := by decide +kernel
theorem dX0_bestMove_74 : decode cX0_bestMove 74 = .ok (.ireturn, 1) := by decide +kernel
theorem dX1_reply_0 : decode cX1_reply 0 = .ok (.aload_n 0, 1) := by decide +kernel
theorem dX1_reply_1 : decode cX1_reply 1 = .ok (.iload_n 1, 1) := by decide +kernel
theorem dX1_reply_2 : decode cX1_reply 2 = .ok (.invokevirtual 77, 3) := by decide +kernel
theorem dX1_reply_5 : decode cX1_reply 5 = .ok (.ifCond .eq 19, 3) := by decide +kernel
theorem dX1_reply_8 : decode cX1_reply 8 = .ok (.aload_n 0, 1) := by decide +kernel
theorem dX1_reply_9 : decode cX1_reply 9 = .ok (.aload_n 0, 1) := by decide +kernel
theorem dX1_reply_10 : decode cX1_reply 10 = .ok (.getfield 28, 3) := by decide +kernel
theorem dX1_reply_13 : decode cX1_reply 13 = .ok (.iload_n 2, 1) := by decide +kernel
theorem dX1_reply_14 : decode cX1_reply 14 = .ok (.invokevirtual 80, 3) := by decide +kernel
theorem dX1_reply_17 : decode cX1_reply 17 = .ok (.iload_n 1, 1) := by decide +kernel
theorem dX1_reply_18 : decode cX1_reply 18 = .ok (.invokestatic 83, 3) := by decide +kernel
theorem dX1_reply_21 : decode cX1_reply 21 = .ok (.goto 4, 3) := by decide +kernel
theorem dX1_reply_24 : decode cX1_reply 24 = .ok (.iconst (-1), 1) := by decide +kernel
theorem dX1_reply_25 : decode cX1_reply 25 = .ok (.ireturn, 1) := by decide +kernel
theorem dX1_isVariable_0 : decode cX1_isVariable 0 = .ok (.iload_n 1, 1) := by decide +kernel
theorem dX1_isVariable_1 : decode cX1_isVariable 1 = .ok (.ifCond .lt 15, 3) := by decide +kernel
theorem dX1_isVariable_4 : decode cX1_isVariable 4 = .ok (.iload_n 1, 1) := by decide +kernel
theorem dX1_isVariable_5 : decode cX1_isVariable 5 = .ok (.aload_n 0, 1) := by decide +kernel
theorem dX1_isVariable_6 : decode cX1_isVariable 6 = .ok (.getfield 18, 3) := by decide +kernel
theorem dX1_isVariable_9 : decode cX1_isVariable 9 = .ok (.if_icmp .ge 7, 3) := by decide +kernel
theorem dX1_isVariable_12 : decode cX1_isVariable 12 = .ok (.iconst 1, 1) := by decide +kernel
theorem dX1_isVariable_13 : decode cX1_isVariable 13 = .ok (.goto 4, 3) := by decide +kernel
theorem dX1_isVariable_16 : decode cX1_isVariable 16 = .ok (.iconst 0, 1) := by decide +kernel
theorem dX1_isVariable_17 : decode cX1_isVariable 17 = .ok (.ireturn, 1) := by decide +kernel
theorem dX1_valuesWithBest_0 : decode cX1_valuesWithBest 0 = .ok (.iconst 0, 1) := by decide +kernel
theorem dX1_valuesWithBest_1 : decode cX1_valuesWithBest 1 = .ok (.istore_n 3, 1) := by decide +kernel
theorem dX1_valuesWithBest_2 : decode cX1_valuesWithBest 2 = .ok (.iconst 0, 1) := by decide +kernel
theorem dX1_valuesWithBest_3 : decode cX1_valuesWithBest 3 = .ok (.istore 4, 2) := by decide +kernel
theorem dX1_valuesWithBest_5 : decode cX1_valuesWithBest 5 = .ok (.iload 4, 2) := by decide +kernel
theorem dX1_valuesWithBest_7 : decode cX1_valuesWithBest 7 = .ok (.aload_n 0, 1) := by decide +kernel
theorem dX1_valuesWithBest_8 : decode cX1_valuesWithBest 8 = .ok (.getfield 18, 3) := by decide +kernel
theorem dX1_valuesWithBest_11 : decode cX1_valuesWithBest 11 = .ok (.if_icmp .ge 48, 3) := by decide +kernel
theorem dX1_valuesWithBest_14 : decode cX1_valuesWithBest 14 = .ok (.iload_n 1, 1) := by decide +kernel
theorem dX1_valuesWithBest_15 : decode cX1_valuesWithBest 15 = .ok (.iload 4, 2) := by decide +kernel
theorem dX1_valuesWithBest_17 : decode cX1_valuesWithBest 17 = .ok (.invokestatic 83, 3) := by decide +kernel
theorem dX1_valuesWithBest_20 : decode cX1_valuesWithBest 20 = .ok (.iconst 1, 1) := by decide +kernel
theorem dX1_valuesWithBest_21 : decode cX1_valuesWithBest 21 = .ok (.if_icmp .ne 16, 3) := by decide +kernel
theorem dX1_valuesWithBest_24 : decode cX1_valuesWithBest 24 = .ok (.aload_n 0, 1) := by decide +kernel
theorem dX1_valuesWithBest_25 : decode cX1_valuesWithBest 25 = .ok (.getfield 36, 3) := by decide +kernel
theorem dX1_valuesWithBest_28 : decode cX1_valuesWithBest 28 = .ok (.iload 4, 2) := by decide +kernel
theorem dX1_valuesWithBest_30 : decode cX1_valuesWithBest 30 = .ok (.iload_n 3, 1) := by decide +kernel
theorem dX1_valuesWithBest_31 : decode cX1_valuesWithBest 31 = .ok (.invokevirtual 74, 3) := by decide +kernel
theorem dX1_valuesWithBest_34 : decode cX1_valuesWithBest 34 = .ok (.goto 9, 3) := by decide +kernel
theorem dX1_valuesWithBest_37 : decode cX1_valuesWithBest 37 = .ok (.iload_n 2, 1) := by decide +kernel
theorem dX1_valuesWithBest_38 : decode cX1_valuesWithBest 38 = .ok (.iload 4, 2) := by decide +kernel
theorem dX1_valuesWithBest_40 : decode cX1_valuesWithBest 40 = .ok (.invokestatic 83, 3) := by decide +kernel
theorem dX1_valuesWithBest_43 : decode cX1_valuesWithBest 43 = .ok (.istore 5, 2) := by decide +kernel
theorem dX1_valuesWithBest_45 : decode cX1_valuesWithBest 45 = .ok (.iload_n 3, 1) := by decide +kernel
theorem dX1_valuesWithBest_46 : decode cX1_valuesWithBest 46 = .ok (.iload 5, 2) := by decide +kernel
theorem dX1_valuesWithBest_48 : decode cX1_valuesWithBest 48 = .ok (.iload 4, 2) := by decide +kernel
end
section
theorem dX1_valuesWithBest_50 : decode cX1_valuesWithBest 50 = .ok (.ishl, 1) := by decide +kernel
theorem dX1_valuesWithBest_51 : decode cX1_valuesWithBest 51 = .ok (.ior, 1) := by decide +kernel
theorem dX1_valuesWithBest_52 : decode cX1_valuesWithBest 52 = .ok (.istore_n 3, 1) := by decide +kernel
theorem dX1_valuesWithBest_53 : decode cX1_valuesWithBest 53 = .ok (.iinc 4 1, 3) := by decide +kernel
theorem dX1_valuesWithBest_56 : decode cX1_valuesWithBest 56 = .ok (.goto (-51), 3) := by decide +kernel
theorem dX1_valuesWithBest_59 : decode cX1_valuesWithBest 59 = .ok (.iload_n 3, 1) := by decide +kernel
theorem dX1_valuesWithBest_60 : decode cX1_valuesWithBest 60 = .ok (.ireturn, 1) := by decide +kernel
theorem dX1_answer_0 : decode cX1_answer 0 = .ok (.aload_n 0, 1) := by decide +kernel
theorem dX1_answer_1 : decode cX1_answer 1 = .ok (.iload_n 1, 1) := by decide +kernel
theorem dX1_answer_2 : decode cX1_answer 2 = .ok (.invokevirtual 77, 3) := by decide +kernel
theorem dX1_answer_5 : decode cX1_answer 5 = .ok (.ifCond .eq 19, 3) := by decide +kernel
theorem dX1_answer_8 : decode cX1_answer 8 = .ok (.aload_n 0, 1) := by decide +kernel
theorem dX1_answer_9 : decode cX1_answer 9 = .ok (.aload_n 0, 1) := by decide +kernel
theorem dX1_answer_10 : decode cX1_answer 10 = .ok (.getfield 25, 3) := by decide +kernel
theorem dX1_answer_13 : decode cX1_answer 13 = .ok (.iload_n 2, 1) := by decide +kernel
theorem dX1_answer_14 : decode cX1_answer 14 = .ok (.invokevirtual 80, 3) := by decide +kernel
theorem dX1_answer_17 : decode cX1_answer 17 = .ok (.iload_n 1, 1) := by decide +kernel
theorem dX1_answer_18 : decode cX1_answer 18 = .ok (.invokestatic 83, 3) := by decide +kernel
theorem dX1_answer_21 : decode cX1_answer 21 = .ok (.goto 4, 3) := by decide +kernel
theorem dX1_answer_24 : decode cX1_answer 24 = .ok (.iconst (-1), 1) := by decide +kernel
theorem dX1_answer_25 : decode cX1_answer 25 = .ok (.ireturn, 1) := by decide +kernel
theorem dX1_idle_0 : decode cX1_idle 0 = .ok (.aload_n 0, 1) := by decide +kernel
theorem dX1_idle_1 : decode cX1_idle 1 = .ok (.iload_n 1, 1) := by decide +kernel
theorem dX1_idle_2 : decode cX1_idle 2 = .ok (.invokevirtual 61, 3) := by decide +kernel
theorem dX1_idle_5 : decode cX1_idle 5 = .ok (.ifCond .eq 27, 3) := by decide +kernel
theorem dX1_idle_8 : decode cX1_idle 8 = .ok (.aload_n 0, 1) := by decide +kernel
theorem dX1_idle_9 : decode cX1_idle 9 = .ok (.aload_n 0, 1) := by decide +kernel
theorem dX1_idle_10 : decode cX1_idle 10 = .ok (.getfield 40, 3) := by decide +kernel
theorem dX1_idle_13 : decode cX1_idle 13 = .ok (.iload_n 1, 1) := by decide +kernel
theorem dX1_idle_14 : decode cX1_idle 14 = .ok (.iaload, 1) := by decide +kernel
theorem dX1_idle_15 : decode cX1_idle 15 = .ok (.aload_n 0, 1) := by decide +kernel
theorem dX1_idle_16 : decode cX1_idle 16 = .ok (.getfield 44, 3) := by decide +kernel
theorem dX1_idle_19 : decode cX1_idle 19 = .ok (.iload_n 1, 1) := by decide +kernel
theorem dX1_idle_20 : decode cX1_idle 20 = .ok (.iaload, 1) := by decide +kernel
theorem dX1_idle_21 : decode cX1_idle 21 = .ok (.iconst (-1), 1) := by decide +kernel
theorem dX1_idle_22 : decode cX1_idle 22 = .ok (.invokevirtual 86, 3) := by decide +kernel
theorem dX1_idle_25 : decode cX1_idle 25 = .ok (.ifCond .eq 7, 3) := by decide +kernel
theorem dX1_idle_28 : decode cX1_idle 28 = .ok (.iconst 1, 1) := by decide +kernel
theorem dX1_idle_29 : decode cX1_idle 29 = .ok (.goto 4, 3) := by decide +kernel
theorem dX1_idle_32 : decode cX1_idle 32 = .ok (.iconst 0, 1) := by decide +kernel
theorem dX1_idle_33 : decode cX1_idle 33 = .ok (.ireturn, 1) := by decide +kernel
theorem dX1_leavesWinner_0 : decode cX1_leavesWinner 0 = .ok (.aload_n 0, 1) := by decide +kernel
theorem dX1_leavesWinner_1 : decode cX1_leavesWinner 1 = .ok (.getfield 36, 3) := by decide +kernel
theorem dX1_leavesWinner_4 : decode cX1_leavesWinner 4 = .ok (.iconst 0, 1) := by decide +kernel
theorem dX1_leavesWinner_5 : decode cX1_leavesWinner 5 = .ok (.iconst 0, 1) := by decide +kernel
theorem dX1_leavesWinner_6 : decode cX1_leavesWinner 6 = .ok (.invokevirtual 71, 3) := by decide +kernel
theorem dX1_leavesWinner_9 : decode cX1_leavesWinner 9 = .ok (.istore 4, 2) := by decide +kernel
theorem dX1_leavesWinner_11 : decode cX1_leavesWinner 11 = .ok (.aload_n 0, 1) := by decide +kernel
theorem dX1_leavesWinner_12 : decode cX1_leavesWinner 12 = .ok (.getfield 36, 3) := by decide +kernel
theorem dX1_leavesWinner_15 : decode cX1_leavesWinner 15 = .ok (.iload_n 1, 1) := by decide +kernel
theorem dX1_leavesWinner_16 : decode cX1_leavesWinner 16 = .ok (.iload_n 2, 1) := by decide +kernel
theorem dX1_leavesWinner_17 : decode cX1_leavesWinner 17 = .ok (.iload_n 3, 1) := by decide +kernel
theorem dX1_leavesWinner_18 : decode cX1_leavesWinner 18 = .ok (.invokevirtual 57, 3) := by decide +kernel
theorem dX1_leavesWinner_21 : decode cX1_leavesWinner 21 = .ok (.aload_n 0, 1) := by decide +kernel
theorem dX1_leavesWinner_22 : decode cX1_leavesWinner 22 = .ok (.getfield 36, 3) := by decide +kernel
theorem dX1_leavesWinner_25 : decode cX1_leavesWinner 25 = .ok (.iconst 0, 1) := by decide +kernel
theorem dX1_leavesWinner_26 : decode cX1_leavesWinner 26 = .ok (.iconst 0, 1) := by decide +kernel
theorem dX1_leavesWinner_27 : decode cX1_leavesWinner 27 = .ok (.invokevirtual 71, 3) := by decide +kernel
theorem dX1_leavesWinner_30 : decode cX1_leavesWinner 30 = .ok (.istore 5, 2) := by decide +kernel
theorem dX1_leavesWinner_32 : decode cX1_leavesWinner 32 = .ok (.aload_n 0, 1) := by decide +kernel
theorem dX1_leavesWinner_33 : decode cX1_leavesWinner 33 = .ok (.getfield 36, 3) := by decide +kernel
theorem dX1_leavesWinner_36 : decode cX1_leavesWinner 36 = .ok (.iload_n 1, 1) := by decide +kernel
theorem dX1_leavesWinner_37 : decode cX1_leavesWinner 37 = .ok (.iload_n 2, 1) := by decide +kernel
theorem dX1_leavesWinner_38 : decode cX1_leavesWinner 38 = .ok (.iload_n 3, 1) := by decide +kernel
theorem dX1_leavesWinner_39 : decode cX1_leavesWinner 39 = .ok (.ineg, 1) := by decide +kernel
theorem dX1_leavesWinner_40 : decode cX1_leavesWinner 40 = .ok (.invokevirtual 57, 3) := by decide +kernel
theorem dX1_leavesWinner_43 : decode cX1_leavesWinner 43 = .ok (.iload 4, 2) := by decide +kernel
theorem dX1_leavesWinner_45 : decode cX1_leavesWinner 45 = .ok (.iload 5, 2) := by decide +kernel
theorem dX1_leavesWinner_47 : decode cX1_leavesWinner 47 = .ok (.if_icmp .ne 7, 3) := by decide +kernel
theorem dX1_leavesWinner_50 : decode cX1_leavesWinner 50 = .ok (.iconst 1, 1) := by decide +kernel
theorem dX1_leavesWinner_51 : decode cX1_leavesWinner 51 = .ok (.goto 4, 3) := by decide +kernel
theorem dX1_leavesWinner_54 : decode cX1_leavesWinner 54 = .ok (.iconst 0, 1) := by decide +kernel
theorem dX1_leavesWinner_55 : decode cX1_leavesWinner 55 = .ok (.ireturn, 1) := by decide +kernel
theorem dX1_harmless_0 : decode cX1_harmless 0 = .ok (.aload_n 0, 1) := by decide +kernel
theorem dX1_harmless_1 : decode cX1_harmless 1 = .ok (.iload_n 1, 1) := by decide +kernel
theorem dX1_harmless_2 : decode cX1_harmless 2 = .ok (.iload_n 2, 1) := by decide +kernel
theorem dX1_harmless_3 : decode cX1_harmless 3 = .ok (.invokevirtual 50, 3) := by decide +kernel
theorem dX1_harmless_6 : decode cX1_harmless 6 = .ok (.ifCond .eq 17, 3) := by decide +kernel
theorem dX1_harmless_9 : decode cX1_harmless 9 = .ok (.aload_n 0, 1) := by decide +kernel
theorem dX1_harmless_10 : decode cX1_harmless 10 = .ok (.iload_n 1, 1) := by decide +kernel
theorem dX1_harmless_11 : decode cX1_harmless 11 = .ok (.iload_n 2, 1) := by decide +kernel
theorem dX1_harmless_12 : decode cX1_harmless 12 = .ok (.iconst 1, 1) := by decide +kernel
theorem dX1_harmless_13 : decode cX1_harmless 13 = .ok (.invokevirtual 86, 3) := by decide +kernel
theorem dX1_harmless_16 : decode cX1_harmless 16 = .ok (.ifCond .eq 7, 3) := by decide +kernel
theorem dX1_harmless_19 : decode cX1_harmless 19 = .ok (.iconst 1, 1) := by decide +kernel
theorem dX1_harmless_20 : decode cX1_harmless 20 = .ok (.goto 4, 3) := by decide +kernel
theorem dX1_harmless_23 : decode cX1_harmless 23 = .ok (.iconst 0, 1) := by decide +kernel
theorem dX1_harmless_24 : decode cX1_harmless 24 = .ok (.ireturn, 1) := by decide +kernel
theorem dX1_models_0 : decode cX1_models 0 = .ok (.aload_n 0, 1) := by decide +kernel
theorem dX1_models_1 : decode cX1_models 1 = .ok (.getfield 36, 3) := by decide +kernel
theorem dX1_models_4 : decode cX1_models 4 = .ok (.invokevirtual 90, 3) := by decide +kernel
theorem dX1_models_7 : decode cX1_models 7 = .ok (.ireturn, 1) := by decide +kernel
theorem dX0_countModels_0 : decode cX0_countModels 0 = .ok (.iconst 0, 1) := by decide +kernel
theorem dX0_countModels_1 : decode cX0_countModels 1 = .ok (.istore_n 1, 1) := by decide +kernel
theorem dX0_countModels_2 : decode cX0_countModels 2 = .ok (.iconst 0, 1) := by decide +kernel
theorem dX0_countModels_3 : decode cX0_countModels 3 = .ok (.istore_n 2, 1) := by decide +kernel
theorem dX0_countModels_4 : decode cX0_countModels 4 = .ok (.iload_n 2, 1) := by decide +kernel
theorem dX0_countModels_5 : decode cX0_countModels 5 = .ok (.aload_n 0, 1) := by decide +kernel
theorem dX0_countModels_6 : decode cX0_countModels 6 = .ok (.getfield 16, 3) := by decide +kernel
theorem dX0_countModels_9 : decode cX0_countModels 9 = .ok (.arraylength, 1) := by decide +kernel
theorem dX0_countModels_10 : decode cX0_countModels 10 = .ok (.if_icmp .ge 21, 3) := by decide +kernel
theorem dX0_countModels_13 : decode cX0_countModels 13 = .ok (.aload_n 0, 1) := by decide +kernel
theorem dX0_countModels_14 : decode cX0_countModels 14 = .ok (.getfield 16, 3) := by decide +kernel
theorem dX0_countModels_17 : decode cX0_countModels 17 = .ok (.iload_n 2, 1) := by decide +kernel
theorem dX0_countModels_18 : decode cX0_countModels 18 = .ok (.iaload, 1) := by decide +kernel
theorem dX0_countModels_19 : decode cX0_countModels 19 = .ok (.ifCond .ne 6, 3) := by decide +kernel
theorem dX0_countModels_22 : decode cX0_countModels 22 = .ok (.iinc 1 1, 3) := by decide +kernel
theorem dX0_countModels_25 : decode cX0_countModels 25 = .ok (.iinc 2 1, 3) := by decide +kernel
theorem dX0_countModels_28 : decode cX0_countModels 28 = .ok (.goto (-24), 3) := by decide +kernel
theorem dX0_countModels_31 : decode cX0_countModels 31 = .ok (.iload_n 1, 1) := by decide +kernel
theorem dX0_countModels_32 : decode cX0_countModels 32 = .ok (.ireturn, 1) := by decide +kernel
theorem dX1_claim_0 : decode cX1_claim 0 = .ok (.aload_n 0, 1) := by decide +kernel
theorem dX1_claim_1 : decode cX1_claim 1 = .ok (.iload_n 1, 1) := by decide +kernel
theorem dX1_claim_2 : decode cX1_claim 2 = .ok (.invokevirtual 94, 3) := by decide +kernel
theorem dX1_claim_5 : decode cX1_claim 5 = .ok (.ifCond .ne 5, 3) := by decide +kernel
theorem dX1_claim_8 : decode cX1_claim 8 = .ok (.iconst 0, 1) := by decide +kernel
theorem dX1_claim_9 : decode cX1_claim 9 = .ok (.ireturn, 1) := by decide +kernel
theorem dX1_claim_10 : decode cX1_claim 10 = .ok (.aload_n 0, 1) := by decide +kernel
theorem dX1_claim_11 : decode cX1_claim 11 = .ok (.getfield 47, 3) := by decide +kernel
theorem dX1_claim_14 : decode cX1_claim 14 = .ok (.iload_n 1, 1) := by decide +kernel
theorem dX1_claim_15 : decode cX1_claim 15 = .ok (.iload_n 2, 1) := by decide +kernel
theorem dX1_claim_16 : decode cX1_claim 16 = .ok (.iastore, 1) := by decide +kernel
theorem dX1_claim_17 : decode cX1_claim 17 = .ok (.iconst 1, 1) := by decide +kernel
theorem dX1_claim_18 : decode cX1_claim 18 = .ok (.ireturn, 1) := by decide +kernel
theorem dX1_isEves_0 : decode cX1_isEves 0 = .ok (.aload_n 0, 1) := by decide +kernel
theorem dX1_isEves_1 : decode cX1_isEves 1 = .ok (.iload_n 1, 1) := by decide +kernel
theorem dX1_isEves_2 : decode cX1_isEves 2 = .ok (.invokevirtual 77, 3) := by decide +kernel
theorem dX1_isEves_5 : decode cX1_isEves 5 = .ok (.ifCond .eq 19, 3) := by decide +kernel
theorem dX1_isEves_8 : decode cX1_isEves 8 = .ok (.aload_n 0, 1) := by decide +kernel
theorem dX1_isEves_9 : decode cX1_isEves 9 = .ok (.getfield 28, 3) := by decide +kernel
theorem dX1_isEves_12 : decode cX1_isEves 12 = .ok (.iload_n 1, 1) := by decide +kernel
theorem dX1_isEves_13 : decode cX1_isEves 13 = .ok (.invokestatic 83, 3) := by decide +kernel
theorem dX1_isEves_16 : decode cX1_isEves 16 = .ok (.iconst 1, 1) := by decide +kernel
theorem dX1_isEves_17 : decode cX1_isEves 17 = .ok (.if_icmp .ne 7, 3) := by decide +kernel
theorem dX1_isEves_20 : decode cX1_isEves 20 = .ok (.iconst 1, 1) := by decide +kernel
theorem dX1_isEves_21 : decode cX1_isEves 21 = .ok (.goto 4, 3) := by decide +kernel
theorem dX1_isEves_24 : decode cX1_isEves 24 = .ok (.iconst 0, 1) := by decide +kernel
theorem dX1_isEves_25 : decode cX1_isEves 25 = .ok (.ireturn, 1) := by decide +kernel
theorem dX1_gap_0 : decode cX1_gap 0 = .ok (.aload_n 0, 1) := by decide +kernel
theorem dX1_gap_1 : decode cX1_gap 1 = .ok (.aload_n 0, 1) := by decide +kernel
theorem dX1_gap_2 : decode cX1_gap 2 = .ok (.getfield 18, 3) := by decide +kernel
theorem dX1_gap_5 : decode cX1_gap 5 = .ok (.invokevirtual 97, 3) := by decide +kernel
theorem dX1_gap_8 : decode cX1_gap 8 = .ok (.istore_n 1, 1) := by decide +kernel
theorem dX1_gap_9 : decode cX1_gap 9 = .ok (.iconst 0, 1) := by decide +kernel
theorem dX1_gap_10 : decode cX1_gap 10 = .ok (.istore_n 2, 1) := by decide +kernel
theorem dX1_gap_11 : decode cX1_gap 11 = .ok (.iload_n 2, 1) := by decide +kernel
theorem dX1_gap_12 : decode cX1_gap 12 = .ok (.iload_n 1, 1) := by decide +kernel
theorem dX1_gap_13 : decode cX1_gap 13 = .ok (.if_icmp .ge 30, 3) := by decide +kernel
theorem dX1_gap_16 : decode cX1_gap 16 = .ok (.aload_n 0, 1) := by decide +kernel
theorem dX1_gap_17 : decode cX1_gap 17 = .ok (.getfield 36, 3) := by decide +kernel
theorem dX1_gap_20 : decode cX1_gap 20 = .ok (.aload_n 0, 1) := by decide +kernel
theorem dX1_gap_21 : decode cX1_gap 21 = .ok (.getfield 18, 3) := by decide +kernel
theorem dX1_gap_24 : decode cX1_gap 24 = .ok (.aload_n 0, 1) := by decide +kernel
theorem dX1_gap_25 : decode cX1_gap 25 = .ok (.iload_n 2, 1) := by decide +kernel
theorem dX1_gap_26 : decode cX1_gap 26 = .ok (.invokevirtual 101, 3) := by decide +kernel
theorem dX1_gap_29 : decode cX1_gap 29 = .ok (.invokevirtual 71, 3) := by decide +kernel
theorem dX1_gap_32 : decode cX1_gap 32 = .ok (.ifCond .ne 5, 3) := by decide +kernel
theorem dX1_gap_35 : decode cX1_gap 35 = .ok (.iload_n 2, 1) := by decide +kernel
theorem dX1_gap_36 : decode cX1_gap 36 = .ok (.ireturn, 1) := by decide +kernel
theorem dX1_gap_37 : decode cX1_gap 37 = .ok (.iinc 2 1, 3) := by decide +kernel
theorem dX1_gap_40 : decode cX1_gap 40 = .ok (.goto (-29), 3) := by decide +kernel
theorem dX1_gap_43 : decode cX1_gap 43 = .ok (.iconst (-1), 1) := by decide +kernel
theorem dX1_gap_44 : decode cX1_gap 44 = .ok (.ireturn, 1) := by decide +kernel
theorem dX1_sumsBefore_0 : decode cX1_sumsBefore 0 = .ok (.iconst 1, 1) := by decide +kernel
theorem dX1_sumsBefore_1 : decode cX1_sumsBefore 1 = .ok (.aload_n 0, 1) := by decide +kernel
theorem dX1_sumsBefore_2 : decode cX1_sumsBefore 2 = .ok (.getfield 25, 3) := by decide +kernel
theorem dX1_sumsBefore_5 : decode cX1_sumsBefore 5 = .ok (.iconst 1, 1) := by decide +kernel
theorem dX1_sumsBefore_6 : decode cX1_sumsBefore 6 = .ok (.iload_n 1, 1) := by decide +kernel
theorem dX1_sumsBefore_7 : decode cX1_sumsBefore 7 = .ok (.ishl, 1) := by decide +kernel
theorem dX1_sumsBefore_8 : decode cX1_sumsBefore 8 = .ok (.iconst 1, 1) := by decide +kernel
theorem dX1_sumsBefore_9 : decode cX1_sumsBefore 9 = .ok (.isub, 1) := by decide +kernel
theorem dX1_sumsBefore_10 : decode cX1_sumsBefore 10 = .ok (.iand, 1) := by decide +kernel
theorem dX1_sumsBefore_11 : decode cX1_sumsBefore 11 = .ok (.invokestatic 116, 3) := by decide +kernel
theorem dX1_sumsBefore_14 : decode cX1_sumsBefore 14 = .ok (.ishl, 1) := by decide +kernel
theorem dX1_sumsBefore_15 : decode cX1_sumsBefore 15 = .ok (.ireturn, 1) := by decide +kernel
theorem dJ6_bitCount_0 : decode cJ6_bitCount 0 = .ok (.iload_n 0, 1) := by decide +kernel
theorem dJ6_bitCount_1 : decode cJ6_bitCount 1 = .ok (.iload_n 0, 1) := by decide +kernel
theorem dJ6_bitCount_2 : decode cJ6_bitCount 2 = .ok (.iconst 1, 1) := by decide +kernel
theorem dJ6_bitCount_3 : decode cJ6_bitCount 3 = .ok (.iushr, 1) := by decide +kernel
theorem dJ6_bitCount_4 : decode cJ6_bitCount 4 = .ok (.ldc_w 265, 3) := by decide +kernel
theorem dJ6_bitCount_7 : decode cJ6_bitCount 7 = .ok (.iand, 1) := by decide +kernel
theorem dJ6_bitCount_8 : decode cJ6_bitCount 8 = .ok (.isub, 1) := by decide +kernel
theorem dJ6_bitCount_9 : decode cJ6_bitCount 9 = .ok (.istore_n 0, 1) := by decide +kernel
theorem dJ6_bitCount_10 : decode cJ6_bitCount 10 = .ok (.iload_n 0, 1) := by decide +kernel
theorem dJ6_bitCount_11 : decode cJ6_bitCount 11 = .ok (.ldc_w 266, 3) := by decide +kernel
theorem dJ6_bitCount_14 : decode cJ6_bitCount 14 = .ok (.iand, 1) := by decide +kernel
theorem dJ6_bitCount_15 : decode cJ6_bitCount 15 = .ok (.iload_n 0, 1) := by decide +kernel
theorem dJ6_bitCount_16 : decode cJ6_bitCount 16 = .ok (.iconst 2, 1) := by decide +kernel
theorem dJ6_bitCount_17 : decode cJ6_bitCount 17 = .ok (.iushr, 1) := by decide +kernel
theorem dJ6_bitCount_18 : decode cJ6_bitCount 18 = .ok (.ldc_w 266, 3) := by decide +kernel
theorem dJ6_bitCount_21 : decode cJ6_bitCount 21 = .ok (.iand, 1) := by decide +kernel
theorem dJ6_bitCount_22 : decode cJ6_bitCount 22 = .ok (.iadd, 1) := by decide +kernel
theorem dJ6_bitCount_23 : decode cJ6_bitCount 23 = .ok (.istore_n 0, 1) := by decide +kernel
theorem dJ6_bitCount_24 : decode cJ6_bitCount 24 = .ok (.iload_n 0, 1) := by decide +kernel
theorem dJ6_bitCount_25 : decode cJ6_bitCount 25 = .ok (.iload_n 0, 1) := by decide +kernel
theorem dJ6_bitCount_26 : decode cJ6_bitCount 26 = .ok (.iconst 4, 1) := by decide +kernel
theorem dJ6_bitCount_27 : decode cJ6_bitCount 27 = .ok (.iushr, 1) := by decide +kernel
theorem dJ6_bitCount_28 : decode cJ6_bitCount 28 = .ok (.iadd, 1) := by decide +kernel
theorem dJ6_bitCount_29 : decode cJ6_bitCount 29 = .ok (.ldc_w 267, 3) := by decide +kernel
theorem dJ6_bitCount_32 : decode cJ6_bitCount 32 = .ok (.iand, 1) := by decide +kernel
theorem dJ6_bitCount_33 : decode cJ6_bitCount 33 = .ok (.istore_n 0, 1) := by decide +kernel
theorem dJ6_bitCount_34 : decode cJ6_bitCount 34 = .ok (.iload_n 0, 1) := by decide +kernel
theorem dJ6_bitCount_35 : decode cJ6_bitCount 35 = .ok (.iload_n 0, 1) := by decide +kernel
theorem dJ6_bitCount_36 : decode cJ6_bitCount 36 = .ok (.bipush 8, 2) := by decide +kernel
theorem dJ6_bitCount_38 : decode cJ6_bitCount 38 = .ok (.iushr, 1) := by decide +kernel
theorem dJ6_bitCount_39 : decode cJ6_bitCount 39 = .ok (.iadd, 1) := by decide +kernel
theorem dJ6_bitCount_40 : decode cJ6_bitCount 40 = .ok (.istore_n 0, 1) := by decide +kernel
theorem dJ6_bitCount_41 : decode cJ6_bitCount 41 = .ok (.iload_n 0, 1) := by decide +kernel
theorem dJ6_bitCount_42 : decode cJ6_bitCount 42 = .ok (.iload_n 0, 1) := by decide +kernel
theorem dJ6_bitCount_43 : decode cJ6_bitCount 43 = .ok (.bipush 16, 2) := by decide +kernel
theorem dJ6_bitCount_45 : decode cJ6_bitCount 45 = .ok (.iushr, 1) := by decide +kernel
theorem dJ6_bitCount_46 : decode cJ6_bitCount 46 = .ok (.iadd, 1) := by decide +kernel
theorem dJ6_bitCount_47 : decode cJ6_bitCount 47 = .ok (.istore_n 0, 1) := by decide +kernel
theorem dJ6_bitCount_48 : decode cJ6_bitCount 48 = .ok (.iload_n 0, 1) := by decide +kernel
theorem dJ6_bitCount_49 : decode cJ6_bitCount 49 = .ok (.bipush 63, 2) := by decide +kernel
theorem dJ6_bitCount_51 : decode cJ6_bitCount 51 = .ok (.iand, 1) := by decide +kernel
theorem dJ6_bitCount_52 : decode cJ6_bitCount 52 = .ok (.ireturn, 1) := by decide +kernel
theorem dX1_valuesWithClaims_0 : decode cX1_valuesWithClaims 0 = .ok (.aload_n 0, 1) := by decide +kernel
theorem dX1_valuesWithClaims_1 : decode cX1_valuesWithClaims 1 = .ok (.iload_n 1, 1) := by decide +kernel
theorem dX1_valuesWithClaims_2 : decode cX1_valuesWithClaims 2 = .ok (.invokevirtual 104, 3) := by decide +kernel
theorem dX1_valuesWithClaims_5 : decode cX1_valuesWithClaims 5 = .ok (.istore_n 2, 1) := by decide +kernel
theorem dX1_valuesWithClaims_6 : decode cX1_valuesWithClaims 6 = .ok (.iconst 0, 1) := by decide +kernel
theorem dX1_valuesWithClaims_7 : decode cX1_valuesWithClaims 7 = .ok (.istore_n 3, 1) := by decide +kernel
theorem dX1_valuesWithClaims_8 : decode cX1_valuesWithClaims 8 = .ok (.iload_n 3, 1) := by decide +kernel
theorem dX1_valuesWithClaims_9 : decode cX1_valuesWithClaims 9 = .ok (.aload_n 0, 1) := by decide +kernel
theorem dX1_valuesWithClaims_10 : decode cX1_valuesWithClaims 10 = .ok (.getfield 18, 3) := by decide +kernel
theorem dX1_valuesWithClaims_13 : decode cX1_valuesWithClaims 13 = .ok (.if_icmp .ge 37, 3) := by decide +kernel
theorem dX1_valuesWithClaims_16 : decode cX1_valuesWithClaims 16 = .ok (.aload_n 0, 1) := by decide +kernel
theorem dX1_valuesWithClaims_17 : decode cX1_valuesWithClaims 17 = .ok (.iload_n 3, 1) := by decide +kernel
theorem dX1_valuesWithClaims_18 : decode cX1_valuesWithClaims 18 = .ok (.invokevirtual 94, 3) := by decide +kernel
theorem dX1_valuesWithClaims_21 : decode cX1_valuesWithClaims 21 = .ok (.ifCond .eq 23, 3) := by decide +kernel
theorem dX1_valuesWithClaims_24 : decode cX1_valuesWithClaims 24 = .ok (.iload_n 2, 1) := by decide +kernel
theorem dX1_valuesWithClaims_25 : decode cX1_valuesWithClaims 25 = .ok (.aload_n 0, 1) := by decide +kernel
theorem dX1_valuesWithClaims_26 : decode cX1_valuesWithClaims 26 = .ok (.getfield 47, 3) := by decide +kernel
theorem dX1_valuesWithClaims_29 : decode cX1_valuesWithClaims 29 = .ok (.iload_n 3, 1) := by decide +kernel
theorem dX1_valuesWithClaims_30 : decode cX1_valuesWithClaims 30 = .ok (.iaload, 1) := by decide +kernel
theorem dX1_valuesWithClaims_31 : decode cX1_valuesWithClaims 31 = .ok (.aload_n 0, 1) := by decide +kernel
theorem dX1_valuesWithClaims_32 : decode cX1_valuesWithClaims 32 = .ok (.iload_n 3, 1) := by decide +kernel
theorem dX1_valuesWithClaims_33 : decode cX1_valuesWithClaims 33 = .ok (.iload_n 1, 1) := by decide +kernel
theorem dX1_valuesWithClaims_34 : decode cX1_valuesWithClaims 34 = .ok (.invokevirtual 113, 3) := by decide +kernel
theorem dX1_valuesWithClaims_37 : decode cX1_valuesWithClaims 37 = .ok (.invokestatic 83, 3) := by decide +kernel
theorem dX1_valuesWithClaims_40 : decode cX1_valuesWithClaims 40 = .ok (.iload_n 3, 1) := by decide +kernel
theorem dX1_valuesWithClaims_41 : decode cX1_valuesWithClaims 41 = .ok (.ishl, 1) := by decide +kernel
theorem dX1_valuesWithClaims_42 : decode cX1_valuesWithClaims 42 = .ok (.ior, 1) := by decide +kernel
theorem dX1_valuesWithClaims_43 : decode cX1_valuesWithClaims 43 = .ok (.istore_n 2, 1) := by decide +kernel
theorem dX1_valuesWithClaims_44 : decode cX1_valuesWithClaims 44 = .ok (.iinc 3 1, 3) := by decide +kernel
theorem dX1_valuesWithClaims_47 : decode cX1_valuesWithClaims 47 = .ok (.goto (-39), 3) := by decide +kernel
theorem dX1_valuesWithClaims_50 : decode cX1_valuesWithClaims 50 = .ok (.iload_n 2, 1) := by decide +kernel
theorem dX1_valuesWithClaims_51 : decode cX1_valuesWithClaims 51 = .ok (.ireturn, 1) := by decide +kernel
theorem dX1_adamValues_0 : decode cX1_adamValues 0 = .ok (.iconst 0, 1) := by decide +kernel
theorem dX1_adamValues_1 : decode cX1_adamValues 1 = .ok (.istore_n 2, 1) := by decide +kernel
theorem dX1_adamValues_2 : decode cX1_adamValues 2 = .ok (.iconst 0, 1) := by decide +kernel
theorem dX1_adamValues_3 : decode cX1_adamValues 3 = .ok (.istore_n 3, 1) := by decide +kernel
theorem dX1_adamValues_4 : decode cX1_adamValues 4 = .ok (.iconst 0, 1) := by decide +kernel
theorem dX1_adamValues_5 : decode cX1_adamValues 5 = .ok (.istore 4, 2) := by decide +kernel
theorem dX1_adamValues_7 : decode cX1_adamValues 7 = .ok (.iload 4, 2) := by decide +kernel
theorem dX1_adamValues_9 : decode cX1_adamValues 9 = .ok (.aload_n 0, 1) := by decide +kernel
theorem dX1_adamValues_10 : decode cX1_adamValues 10 = .ok (.getfield 18, 3) := by decide +kernel
theorem dX1_adamValues_13 : decode cX1_adamValues 13 = .ok (.if_icmp .ge 36, 3) := by decide +kernel
theorem dX1_adamValues_16 : decode cX1_adamValues 16 = .ok (.aload_n 0, 1) := by decide +kernel
theorem dX1_adamValues_17 : decode cX1_adamValues 17 = .ok (.getfield 25, 3) := by decide +kernel
theorem dX1_adamValues_20 : decode cX1_adamValues 20 = .ok (.iload 4, 2) := by decide +kernel
theorem dX1_adamValues_22 : decode cX1_adamValues 22 = .ok (.invokestatic 83, 3) := by decide +kernel
theorem dX1_adamValues_25 : decode cX1_adamValues 25 = .ok (.iconst 1, 1) := by decide +kernel
theorem dX1_adamValues_26 : decode cX1_adamValues 26 = .ok (.if_icmp .ne 17, 3) := by decide +kernel
theorem dX1_adamValues_29 : decode cX1_adamValues 29 = .ok (.iload_n 2, 1) := by decide +kernel
theorem dX1_adamValues_30 : decode cX1_adamValues 30 = .ok (.iload_n 1, 1) := by decide +kernel
theorem dX1_adamValues_31 : decode cX1_adamValues 31 = .ok (.iload_n 3, 1) := by decide +kernel
theorem dX1_adamValues_32 : decode cX1_adamValues 32 = .ok (.invokestatic 83, 3) := by decide +kernel
theorem dX1_adamValues_35 : decode cX1_adamValues 35 = .ok (.iload 4, 2) := by decide +kernel
theorem dX1_adamValues_37 : decode cX1_adamValues 37 = .ok (.ishl, 1) := by decide +kernel
theorem dX1_adamValues_38 : decode cX1_adamValues 38 = .ok (.ior, 1) := by decide +kernel
theorem dX1_adamValues_39 : decode cX1_adamValues 39 = .ok (.istore_n 2, 1) := by decide +kernel
theorem dX1_adamValues_40 : decode cX1_adamValues 40 = .ok (.iinc 3 1, 3) := by decide +kernel
theorem dX1_adamValues_43 : decode cX1_adamValues 43 = .ok (.iinc 4 1, 3) := by decide +kernel
theorem dX1_adamValues_46 : decode cX1_adamValues 46 = .ok (.goto (-39), 3) := by decide +kernel
theorem dX1_adamValues_49 : decode cX1_adamValues 49 = .ok (.iload_n 2, 1) := by decide +kernel
theorem dX1_adamValues_50 : decode cX1_adamValues 50 = .ok (.ireturn, 1) := by decide +kernel
theorem dX1_sumBefore_0 : decode cX1_sumBefore 0 = .ok (.iload_n 2, 1) := by decide +kernel
theorem dX1_sumBefore_1 : decode cX1_sumBefore 1 = .ok (.aload_n 0, 1) := by decide +kernel
theorem dX1_sumBefore_2 : decode cX1_sumBefore 2 = .ok (.iload_n 1, 1) := by decide +kernel
theorem dX1_sumBefore_3 : decode cX1_sumBefore 3 = .ok (.invokevirtual 97, 3) := by decide +kernel
theorem dX1_sumBefore_6 : decode cX1_sumBefore 6 = .ok (.iconst 1, 1) := by decide +kernel
theorem dX1_sumBefore_7 : decode cX1_sumBefore 7 = .ok (.isub, 1) := by decide +kernel
theorem dX1_sumBefore_8 : decode cX1_sumBefore 8 = .ok (.iand, 1) := by decide +kernel
theorem dX1_sumBefore_9 : decode cX1_sumBefore 9 = .ok (.ireturn, 1) := by decide +kernel
theorem dX1_learn_0 : decode cX1_learn 0 = .ok (.iconst 0, 1) := by decide +kernel
theorem dX1_learn_1 : decode cX1_learn 1 = .ok (.istore_n 1, 1) := by decide +kernel
theorem dX1_learn_2 : decode cX1_learn 2 = .ok (.iload_n 1, 1) := by decide +kernel
theorem dX1_learn_3 : decode cX1_learn 3 = .ok (.aload_n 0, 1) := by decide +kernel
theorem dX1_learn_4 : decode cX1_learn 4 = .ok (.getfield 18, 3) := by decide +kernel
theorem dX1_learn_7 : decode cX1_learn 7 = .ok (.if_icmp .ge 16, 3) := by decide +kernel
theorem dX1_learn_10 : decode cX1_learn 10 = .ok (.aload_n 0, 1) := by decide +kernel
theorem dX1_learn_11 : decode cX1_learn 11 = .ok (.getfield 47, 3) := by decide +kernel
theorem dX1_learn_14 : decode cX1_learn 14 = .ok (.iload_n 1, 1) := by decide +kernel
theorem dX1_learn_15 : decode cX1_learn 15 = .ok (.iconst 0, 1) := by decide +kernel
theorem dX1_learn_16 : decode cX1_learn 16 = .ok (.iastore, 1) := by decide +kernel
theorem dX1_learn_17 : decode cX1_learn 17 = .ok (.iinc 1 1, 3) := by decide +kernel
theorem dX1_learn_20 : decode cX1_learn 20 = .ok (.goto (-18), 3) := by decide +kernel
theorem dX1_learn_23 : decode cX1_learn 23 = .ok (.aload_n 0, 1) := by decide +kernel
theorem dX1_learn_24 : decode cX1_learn 24 = .ok (.aload_n 0, 1) := by decide +kernel
theorem dX1_learn_25 : decode cX1_learn 25 = .ok (.getfield 18, 3) := by decide +kernel
theorem dX1_learn_28 : decode cX1_learn 28 = .ok (.invokevirtual 97, 3) := by decide +kernel
theorem dX1_learn_31 : decode cX1_learn 31 = .ok (.istore_n 1, 1) := by decide +kernel
theorem dX1_learn_32 : decode cX1_learn 32 = .ok (.iconst 0, 1) := by decide +kernel
theorem dX1_learn_33 : decode cX1_learn 33 = .ok (.istore_n 2, 1) := by decide +kernel
theorem dX1_learn_34 : decode cX1_learn 34 = .ok (.iload_n 2, 1) := by decide +kernel
theorem dX1_learn_35 : decode cX1_learn 35 = .ok (.iload_n 1, 1) := by decide +kernel
theorem dX1_learn_36 : decode cX1_learn 36 = .ok (.if_icmp .ge 27, 3) := by decide +kernel
theorem dX1_learn_39 : decode cX1_learn 39 = .ok (.aload_n 0, 1) := by decide +kernel
theorem dX1_learn_40 : decode cX1_learn 40 = .ok (.iload_n 2, 1) := by decide +kernel
theorem dX1_learn_41 : decode cX1_learn 41 = .ok (.aload_n 0, 1) := by decide +kernel
theorem dX1_learn_42 : decode cX1_learn 42 = .ok (.aload_n 0, 1) := by decide +kernel
theorem dX1_learn_43 : decode cX1_learn 43 = .ok (.getfield 28, 3) := by decide +kernel
theorem dX1_learn_46 : decode cX1_learn 46 = .ok (.aload_n 0, 1) := by decide +kernel
theorem dX1_learn_47 : decode cX1_learn 47 = .ok (.iload_n 2, 1) := by decide +kernel
theorem dX1_learn_48 : decode cX1_learn 48 = .ok (.invokevirtual 104, 3) := by decide +kernel
theorem dX1_learn_51 : decode cX1_learn 51 = .ok (.invokevirtual 80, 3) := by decide +kernel
theorem dX1_learn_54 : decode cX1_learn 54 = .ok (.invokevirtual 107, 3) := by decide +kernel
theorem dX1_learn_57 : decode cX1_learn 57 = .ok (.iinc 2 1, 3) := by decide +kernel
theorem dX1_learn_60 : decode cX1_learn 60 = .ok (.goto (-26), 3) := by decide +kernel
theorem dX1_learn_63 : decode cX1_learn 63 = .ok (.aload_n 0, 1) := by decide +kernel
theorem dX1_learn_64 : decode cX1_learn 64 = .ok (.invokevirtual 110, 3) := by decide +kernel
theorem dX1_learn_67 : decode cX1_learn 67 = .ok (.ireturn, 1) := by decide +kernel
theorem dX1_claimValues_0 : decode cX1_claimValues 0 = .ok (.iconst 0, 1) := by decide +kernel
theorem dX1_claimValues_1 : decode cX1_claimValues 1 = .ok (.istore_n 3, 1) := by decide +kernel
theorem dX1_claimValues_2 : decode cX1_claimValues 2 = .ok (.iload_n 3, 1) := by decide +kernel
theorem dX1_claimValues_3 : decode cX1_claimValues 3 = .ok (.aload_n 0, 1) := by decide +kernel
theorem dX1_claimValues_4 : decode cX1_claimValues 4 = .ok (.getfield 18, 3) := by decide +kernel
theorem dX1_claimValues_7 : decode cX1_claimValues 7 = .ok (.if_icmp .ge 38, 3) := by decide +kernel
theorem dX1_claimValues_10 : decode cX1_claimValues 10 = .ok (.aload_n 0, 1) := by decide +kernel
theorem dX1_claimValues_11 : decode cX1_claimValues 11 = .ok (.iload_n 3, 1) := by decide +kernel
theorem dX1_claimValues_12 : decode cX1_claimValues 12 = .ok (.invokevirtual 94, 3) := by decide +kernel
theorem dX1_claimValues_15 : decode cX1_claimValues 15 = .ok (.ifCond .eq 24, 3) := by decide +kernel
theorem dX1_claimValues_18 : decode cX1_claimValues 18 = .ok (.aload_n 0, 1) := by decide +kernel
theorem dX1_claimValues_19 : decode cX1_claimValues 19 = .ok (.getfield 47, 3) := by decide +kernel
theorem dX1_claimValues_22 : decode cX1_claimValues 22 = .ok (.iload_n 3, 1) := by decide +kernel
theorem dX1_claimValues_23 : decode cX1_claimValues 23 = .ok (.dup2, 1) := by decide +kernel
theorem dX1_claimValues_24 : decode cX1_claimValues 24 = .ok (.iaload, 1) := by decide +kernel
theorem dX1_claimValues_25 : decode cX1_claimValues 25 = .ok (.iload_n 2, 1) := by decide +kernel
theorem dX1_claimValues_26 : decode cX1_claimValues 26 = .ok (.iload_n 3, 1) := by decide +kernel
theorem dX1_claimValues_27 : decode cX1_claimValues 27 = .ok (.invokestatic 83, 3) := by decide +kernel
theorem dX1_claimValues_30 : decode cX1_claimValues 30 = .ok (.aload_n 0, 1) := by decide +kernel
theorem dX1_claimValues_31 : decode cX1_claimValues 31 = .ok (.iload_n 3, 1) := by decide +kernel
theorem dX1_claimValues_32 : decode cX1_claimValues 32 = .ok (.iload_n 1, 1) := by decide +kernel
theorem dX1_claimValues_33 : decode cX1_claimValues 33 = .ok (.invokevirtual 113, 3) := by decide +kernel
theorem dX1_claimValues_36 : decode cX1_claimValues 36 = .ok (.ishl, 1) := by decide +kernel
theorem dX1_claimValues_37 : decode cX1_claimValues 37 = .ok (.ior, 1) := by decide +kernel
theorem dX1_claimValues_38 : decode cX1_claimValues 38 = .ok (.iastore, 1) := by decide +kernel
theorem dX1_claimValues_39 : decode cX1_claimValues 39 = .ok (.iinc 3 1, 3) := by decide +kernel
theorem dX1_claimValues_42 : decode cX1_claimValues 42 = .ok (.goto (-40), 3) := by decide +kernel
theorem dX1_claimValues_45 : decode cX1_claimValues 45 = .ok (.return_, 1) := by decide +kernel
theorem dX1_claimed_0 : decode cX1_claimed 0 = .ok (.aload_n 0, 1) := by decide +kernel
theorem dX1_claimed_1 : decode cX1_claimed 1 = .ok (.iload_n 1, 1) := by decide +kernel
theorem dX1_claimed_2 : decode cX1_claimed 2 = .ok (.invokevirtual 94, 3) := by decide +kernel
theorem dX1_claimed_5 : decode cX1_claimed 5 = .ok (.ifCond .eq 16, 3) := by decide +kernel
theorem dX1_claimed_8 : decode cX1_claimed 8 = .ok (.iload_n 2, 1) := by decide +kernel
theorem dX1_claimed_9 : decode cX1_claimed 9 = .ok (.ifCond .lt 12, 3) := by decide +kernel
theorem dX1_claimed_12 : decode cX1_claimed 12 = .ok (.iload_n 2, 1) := by decide +kernel
theorem dX1_claimed_13 : decode cX1_claimed 13 = .ok (.aload_n 0, 1) := by decide +kernel
theorem dX1_claimed_14 : decode cX1_claimed 14 = .ok (.iload_n 1, 1) := by decide +kernel
theorem dX1_claimed_15 : decode cX1_claimed 15 = .ok (.invokevirtual 97, 3) := by decide +kernel
theorem dX1_claimed_18 : decode cX1_claimed 18 = .ok (.if_icmp .lt 5, 3) := by decide +kernel
theorem dX1_claimed_21 : decode cX1_claimed 21 = .ok (.iconst 0, 1) := by decide +kernel
theorem dX1_claimed_22 : decode cX1_claimed 22 = .ok (.ireturn, 1) := by decide +kernel
theorem dX1_claimed_23 : decode cX1_claimed 23 = .ok (.aload_n 0, 1) := by decide +kernel
theorem dX1_claimed_24 : decode cX1_claimed 24 = .ok (.getfield 47, 3) := by decide +kernel
theorem dX1_claimed_27 : decode cX1_claimed 27 = .ok (.iload_n 1, 1) := by decide +kernel
theorem dX1_claimed_28 : decode cX1_claimed 28 = .ok (.iaload, 1) := by decide +kernel
theorem dX1_claimed_29 : decode cX1_claimed 29 = .ok (.iload_n 2, 1) := by decide +kernel
theorem dX1_claimed_30 : decode cX1_claimed 30 = .ok (.invokestatic 83, 3) := by decide +kernel
theorem dX1_claimed_33 : decode cX1_claimed 33 = .ok (.ireturn, 1) := by decide +kernel
theorem dL_cell_0 : decode cL_cell 0 = .ok (.iload_n 1, 1) := by decide +kernel
theorem dL_cell_1 : decode cL_cell 1 = .ok (.aload_n 0, 1) := by decide +kernel
theorem dL_cell_2 : decode cL_cell 2 = .ok (.arraylength, 1) := by decide +kernel
theorem dL_cell_3 : decode cL_cell 3 = .ok (.if_icmp .ge 9, 3) := by decide +kernel
theorem dL_cell_6 : decode cL_cell 6 = .ok (.aload_n 0, 1) := by decide +kernel
theorem dL_cell_7 : decode cL_cell 7 = .ok (.iload_n 1, 1) := by decide +kernel
theorem dL_cell_8 : decode cL_cell 8 = .ok (.iaload, 1) := by decide +kernel
theorem dL_cell_9 : decode cL_cell 9 = .ok (.goto 4, 3) := by decide +kernel
theorem dL_cell_12 : decode cL_cell 12 = .ok (.iconst 0, 1) := by decide +kernel
theorem dL_cell_13 : decode cL_cell 13 = .ok (.ireturn, 1) := by decide +kernel
theorem dX2_init_0 : decode cX2_init 0 = .ok (.aload_n 0, 1) := by decide +kernel
theorem dX2_init_1 : decode cX2_init 1 = .ok (.invokespecial 1, 3) := by decide +kernel
theorem dX2_init_4 : decode cX2_init 4 = .ok (.aload_n 0, 1) := by decide +kernel
theorem dX2_init_5 : decode cX2_init 5 = .ok (.bipush 24, 2) := by decide +kernel
theorem dX2_init_7 : decode cX2_init 7 = .ok (.newarray .int, 2) := by decide +kernel
theorem dX2_init_9 : decode cX2_init 9 = .ok (.putfield 7, 3) := by decide +kernel
theorem dX2_init_12 : decode cX2_init 12 = .ok (.aload_n 0, 1) := by decide +kernel
theorem dX2_init_13 : decode cX2_init 13 = .ok (.bipush 24, 2) := by decide +kernel
theorem dX2_init_15 : decode cX2_init 15 = .ok (.newarray .int, 2) := by decide +kernel
theorem dX2_init_17 : decode cX2_init 17 = .ok (.putfield 13, 3) := by decide +kernel
theorem dX2_init_20 : decode cX2_init 20 = .ok (.aload_n 0, 1) := by decide +kernel
theorem dX2_init_21 : decode cX2_init 21 = .ok (.iconst (-1), 1) := by decide +kernel
theorem dX2_init_22 : decode cX2_init 22 = .ok (.putfield 16, 3) := by decide +kernel
theorem dX2_init_25 : decode cX2_init 25 = .ok (.aload_n 0, 1) := by decide +kernel
theorem dX2_init_26 : decode cX2_init 26 = .ok (.sipush 2048, 3) := by decide +kernel
theorem dX2_init_29 : decode cX2_init 29 = .ok (.newarray .boolean, 2) := by decide +kernel
theorem dX2_init_31 : decode cX2_init 31 = .ok (.putfield 20, 3) := by decide +kernel
theorem dX2_init_34 : decode cX2_init 34 = .ok (.aload_n 0, 1) := by decide +kernel
theorem dX2_init_35 : decode cX2_init 35 = .ok (.iconst 1, 1) := by decide +kernel
theorem dX2_init_36 : decode cX2_init 36 = .ok (.putfield 24, 3) := by decide +kernel
theorem dX2_init_39 : decode cX2_init 39 = .ok (.aload_n 0, 1) := by decide +kernel
theorem dX2_init_40 : decode cX2_init 40 = .ok (.bipush 10, 2) := by decide +kernel
theorem dX2_init_42 : decode cX2_init 42 = .ok (.newarray .int, 2) := by decide +kernel
theorem dX2_init_44 : decode cX2_init 44 = .ok (.putfield 27, 3) := by decide +kernel
theorem dX2_init_47 : decode cX2_init 47 = .ok (.aload_n 0, 1) := by decide +kernel
theorem dX2_init_48 : decode cX2_init 48 = .ok (.iload_n 1, 1) := by decide +kernel
theorem dX2_init_49 : decode cX2_init 49 = .ok (.iconst 1, 1) := by decide +kernel
theorem dX2_init_50 : decode cX2_init 50 = .ok (.if_icmp .ge 7, 3) := by decide +kernel
theorem dX2_init_53 : decode cX2_init 53 = .ok (.iconst 1, 1) := by decide +kernel
theorem dX2_init_54 : decode cX2_init 54 = .ok (.goto 15, 3) := by decide +kernel
theorem dX2_init_57 : decode cX2_init 57 = .ok (.iload_n 1, 1) := by decide +kernel
theorem dX2_init_58 : decode cX2_init 58 = .ok (.bipush 10, 2) := by decide +kernel
theorem dX2_init_60 : decode cX2_init 60 = .ok (.if_icmp .le 8, 3) := by decide +kernel
theorem dX2_init_63 : decode cX2_init 63 = .ok (.bipush 10, 2) := by decide +kernel
theorem dX2_init_65 : decode cX2_init 65 = .ok (.goto 4, 3) := by decide +kernel
theorem dX2_init_68 : decode cX2_init 68 = .ok (.iload_n 1, 1) := by decide +kernel
theorem dX2_init_69 : decode cX2_init 69 = .ok (.putfield 30, 3) := by decide +kernel
theorem dX2_init_72 : decode cX2_init 72 = .ok (.iconst 0, 1) := by decide +kernel
theorem dX2_init_73 : decode cX2_init 73 = .ok (.istore_n 3, 1) := by decide +kernel
theorem dX2_init_74 : decode cX2_init 74 = .ok (.iconst 0, 1) := by decide +kernel
theorem dX2_init_75 : decode cX2_init 75 = .ok (.istore 4, 2) := by decide +kernel
theorem dX2_init_77 : decode cX2_init 77 = .ok (.iconst 0, 1) := by decide +kernel
theorem dX2_init_78 : decode cX2_init 78 = .ok (.istore 5, 2) := by decide +kernel
theorem dX2_init_80 : decode cX2_init 80 = .ok (.iload 5, 2) := by decide +kernel
theorem dX2_init_82 : decode cX2_init 82 = .ok (.aload_n 0, 1) := by decide +kernel
theorem dX2_init_83 : decode cX2_init 83 = .ok (.getfield 30, 3) := by decide +kernel
theorem dX2_init_86 : decode cX2_init 86 = .ok (.if_icmp .ge 35, 3) := by decide +kernel
theorem dX2_init_89 : decode cX2_init 89 = .ok (.iload_n 2, 1) := by decide +kernel
theorem dX2_init_90 : decode cX2_init 90 = .ok (.iload 5, 2) := by decide +kernel
theorem dX2_init_92 : decode cX2_init 92 = .ok (.ishr, 1) := by decide +kernel
theorem dX2_init_93 : decode cX2_init 93 = .ok (.iconst 1, 1) := by decide +kernel
theorem dX2_init_94 : decode cX2_init 94 = .ok (.iand, 1) := by decide +kernel
theorem dX2_init_95 : decode cX2_init 95 = .ok (.iconst 1, 1) := by decide +kernel
theorem dX2_init_96 : decode cX2_init 96 = .ok (.if_icmp .ne 19, 3) := by decide +kernel
theorem dX2_init_99 : decode cX2_init 99 = .ok (.iload 4, 2) := by decide +kernel
theorem dX2_init_101 : decode cX2_init 101 = .ok (.iconst 5, 1) := by decide +kernel
theorem dX2_init_102 : decode cX2_init 102 = .ok (.if_icmp .ge 13, 3) := by decide +kernel
theorem dX2_init_105 : decode cX2_init 105 = .ok (.iload_n 3, 1) := by decide +kernel
theorem dX2_init_106 : decode cX2_init 106 = .ok (.iconst 1, 1) := by decide +kernel
theorem dX2_init_107 : decode cX2_init 107 = .ok (.iload 5, 2) := by decide +kernel
theorem dX2_init_109 : decode cX2_init 109 = .ok (.ishl, 1) := by decide +kernel
theorem dX2_init_110 : decode cX2_init 110 = .ok (.iadd, 1) := by decide +kernel
theorem dX2_init_111 : decode cX2_init 111 = .ok (.istore_n 3, 1) := by decide +kernel
theorem dX2_init_112 : decode cX2_init 112 = .ok (.iinc 4 1, 3) := by decide +kernel
theorem dX2_init_115 : decode cX2_init 115 = .ok (.iinc 5 1, 3) := by decide +kernel
theorem dX2_init_118 : decode cX2_init 118 = .ok (.goto (-38), 3) := by decide +kernel
theorem dX2_init_121 : decode cX2_init 121 = .ok (.aload_n 0, 1) := by decide +kernel
theorem dX2_init_122 : decode cX2_init 122 = .ok (.iload_n 3, 1) := by decide +kernel
theorem dX2_init_123 : decode cX2_init 123 = .ok (.putfield 33, 3) := by decide +kernel
theorem dX2_init_126 : decode cX2_init 126 = .ok (.return_, 1) := by decide +kernel
theorem dX2_variables_0 : decode cX2_variables 0 = .ok (.aload_n 0, 1) := by decide +kernel
theorem dX2_variables_1 : decode cX2_variables 1 = .ok (.getfield 30, 3) := by decide +kernel
theorem dX2_variables_4 : decode cX2_variables 4 = .ok (.ireturn, 1) := by decide +kernel
theorem dX2_adams_0 : decode cX2_adams 0 = .ok (.aload_n 0, 1) := by decide +kernel
theorem dX2_adams_1 : decode cX2_adams 1 = .ok (.getfield 33, 3) := by decide +kernel
theorem dX2_adams_4 : decode cX2_adams 4 = .ok (.ireturn, 1) := by decide +kernel
theorem dX2_add_0 : decode cX2_add 0 = .ok (.aload_n 0, 1) := by decide +kernel
theorem dX2_add_1 : decode cX2_add 1 = .ok (.iload_n 1, 1) := by decide +kernel
theorem dX2_add_2 : decode cX2_add 2 = .ok (.invokevirtual 36, 3) := by decide +kernel
theorem dX2_add_5 : decode cX2_add 5 = .ok (.ifCond .ne 11, 3) := by decide +kernel
theorem dX2_add_8 : decode cX2_add 8 = .ok (.aload_n 0, 1) := by decide +kernel
theorem dX2_add_9 : decode cX2_add 9 = .ok (.iload_n 2, 1) := by decide +kernel
theorem dX2_add_10 : decode cX2_add 10 = .ok (.invokevirtual 36, 3) := by decide +kernel
theorem dX2_add_13 : decode cX2_add 13 = .ok (.ifCond .eq 5, 3) := by decide +kernel
theorem dX2_add_16 : decode cX2_add 16 = .ok (.iconst (-1), 1) := by decide +kernel
theorem dX2_add_17 : decode cX2_add 17 = .ok (.ireturn, 1) := by decide +kernel
theorem dX2_add_18 : decode cX2_add 18 = .ok (.aload_n 0, 1) := by decide +kernel
theorem dX2_add_19 : decode cX2_add 19 = .ok (.getfield 40, 3) := by decide +kernel
theorem dX2_add_22 : decode cX2_add 22 = .ok (.bipush 24, 2) := by decide +kernel
theorem dX2_add_24 : decode cX2_add 24 = .ok (.if_icmp .ne 6, 3) := by decide +kernel
theorem dX2_add_27 : decode cX2_add 27 = .ok (.bipush (-2), 2) := by decide +kernel
theorem dX2_add_29 : decode cX2_add 29 = .ok (.ireturn, 1) := by decide +kernel
theorem dX2_add_30 : decode cX2_add 30 = .ok (.aload_n 0, 1) := by decide +kernel
theorem dX2_add_31 : decode cX2_add 31 = .ok (.getfield 7, 3) := by decide +kernel
theorem dX2_add_34 : decode cX2_add 34 = .ok (.aload_n 0, 1) := by decide +kernel
theorem dX2_add_35 : decode cX2_add 35 = .ok (.getfield 40, 3) := by decide +kernel
theorem dX2_add_38 : decode cX2_add 38 = .ok (.iload_n 1, 1) := by decide +kernel
theorem dX2_add_39 : decode cX2_add 39 = .ok (.iastore, 1) := by decide +kernel
theorem dX2_add_40 : decode cX2_add 40 = .ok (.aload_n 0, 1) := by decide +kernel
theorem dX2_add_41 : decode cX2_add 41 = .ok (.getfield 13, 3) := by decide +kernel
theorem dX2_add_44 : decode cX2_add 44 = .ok (.aload_n 0, 1) := by decide +kernel
theorem dX2_add_45 : decode cX2_add 45 = .ok (.getfield 40, 3) := by decide +kernel
theorem dX2_add_48 : decode cX2_add 48 = .ok (.iload_n 2, 1) := by decide +kernel
theorem dX2_add_49 : decode cX2_add 49 = .ok (.iastore, 1) := by decide +kernel
theorem dX2_add_50 : decode cX2_add 50 = .ok (.aload_n 0, 1) := by decide +kernel
theorem dX2_add_51 : decode cX2_add 51 = .ok (.dup, 1) := by decide +kernel
theorem dX2_add_52 : decode cX2_add 52 = .ok (.getfield 40, 3) := by decide +kernel
theorem dX2_add_55 : decode cX2_add 55 = .ok (.iconst 1, 1) := by decide +kernel
theorem dX2_add_56 : decode cX2_add 56 = .ok (.iadd, 1) := by decide +kernel
theorem dX2_add_57 : decode cX2_add 57 = .ok (.putfield 40, 3) := by decide +kernel
theorem dX2_add_60 : decode cX2_add 60 = .ok (.aload_n 0, 1) := by decide +kernel
theorem dX2_add_61 : decode cX2_add 61 = .ok (.iconst 0, 1) := by decide +kernel
theorem dX2_add_62 : decode cX2_add 62 = .ok (.putfield 43, 3) := by decide +kernel
theorem dX2_add_65 : decode cX2_add 65 = .ok (.aload_n 0, 1) := by decide +kernel
theorem dX2_add_66 : decode cX2_add 66 = .ok (.getfield 40, 3) := by decide +kernel
theorem dX2_add_69 : decode cX2_add 69 = .ok (.iconst 1, 1) := by decide +kernel
theorem dX2_add_70 : decode cX2_add 70 = .ok (.isub, 1) := by decide +kernel
theorem dX2_add_71 : decode cX2_add 71 = .ok (.ireturn, 1) := by decide +kernel
theorem dX2_strange_0 : decode cX2_strange 0 = .ok (.iload_n 1, 1) := by decide +kernel
theorem dX2_strange_1 : decode cX2_strange 1 = .ok (.ifCond .lt 13, 3) := by decide +kernel
theorem dX2_strange_4 : decode cX2_strange 4 = .ok (.iload_n 1, 1) := by decide +kernel
theorem dX2_strange_5 : decode cX2_strange 5 = .ok (.iconst 1, 1) := by decide +kernel
theorem dX2_strange_6 : decode cX2_strange 6 = .ok (.aload_n 0, 1) := by decide +kernel
theorem dX2_strange_7 : decode cX2_strange 7 = .ok (.getfield 30, 3) := by decide +kernel
theorem dX2_strange_10 : decode cX2_strange 10 = .ok (.ishl, 1) := by decide +kernel
theorem dX2_strange_11 : decode cX2_strange 11 = .ok (.if_icmp .lt 7, 3) := by decide +kernel
theorem dX2_strange_14 : decode cX2_strange 14 = .ok (.iconst 1, 1) := by decide +kernel
theorem dX2_strange_15 : decode cX2_strange 15 = .ok (.goto 4, 3) := by decide +kernel
theorem dX2_strange_18 : decode cX2_strange 18 = .ok (.iconst 0, 1) := by decide +kernel
theorem dX2_strange_19 : decode cX2_strange 19 = .ok (.ireturn, 1) := by decide +kernel
theorem dX2_drop_0 : decode cX2_drop 0 = .ok (.aload_n 0, 1) := by decide +kernel
theorem dX2_drop_1 : decode cX2_drop 1 = .ok (.iload_n 1, 1) := by decide +kernel
theorem dX2_drop_2 : decode cX2_drop 2 = .ok (.invokevirtual 47, 3) := by decide +kernel
theorem dX2_drop_5 : decode cX2_drop 5 = .ok (.ifCond .eq 5, 3) := by decide +kernel
theorem dX2_drop_8 : decode cX2_drop 8 = .ok (.iconst 0, 1) := by decide +kernel
theorem dX2_drop_9 : decode cX2_drop 9 = .ok (.ireturn, 1) := by decide +kernel
theorem dX2_drop_10 : decode cX2_drop 10 = .ok (.aload_n 0, 1) := by decide +kernel
theorem dX2_drop_11 : decode cX2_drop 11 = .ok (.dup, 1) := by decide +kernel
theorem dX2_drop_12 : decode cX2_drop 12 = .ok (.getfield 40, 3) := by decide +kernel
theorem dX2_drop_15 : decode cX2_drop 15 = .ok (.iconst 1, 1) := by decide +kernel
theorem dX2_drop_16 : decode cX2_drop 16 = .ok (.isub, 1) := by decide +kernel
theorem dX2_drop_17 : decode cX2_drop 17 = .ok (.putfield 40, 3) := by decide +kernel
theorem dX2_drop_20 : decode cX2_drop 20 = .ok (.iload_n 1, 1) := by decide +kernel
theorem dX2_drop_21 : decode cX2_drop 21 = .ok (.istore_n 2, 1) := by decide +kernel
theorem dX2_drop_22 : decode cX2_drop 22 = .ok (.iload_n 2, 1) := by decide +kernel
theorem dX2_drop_23 : decode cX2_drop 23 = .ok (.aload_n 0, 1) := by decide +kernel
theorem dX2_drop_24 : decode cX2_drop 24 = .ok (.getfield 40, 3) := by decide +kernel
theorem dX2_drop_27 : decode cX2_drop 27 = .ok (.if_icmp .ge 37, 3) := by decide +kernel
theorem dX2_drop_30 : decode cX2_drop 30 = .ok (.aload_n 0, 1) := by decide +kernel
theorem dX2_drop_31 : decode cX2_drop 31 = .ok (.getfield 7, 3) := by decide +kernel
theorem dX2_drop_34 : decode cX2_drop 34 = .ok (.iload_n 2, 1) := by decide +kernel
theorem dX2_drop_35 : decode cX2_drop 35 = .ok (.aload_n 0, 1) := by decide +kernel
theorem dX2_drop_36 : decode cX2_drop 36 = .ok (.getfield 7, 3) := by decide +kernel
theorem dX2_drop_39 : decode cX2_drop 39 = .ok (.iload_n 2, 1) := by decide +kernel
theorem dX2_drop_40 : decode cX2_drop 40 = .ok (.iconst 1, 1) := by decide +kernel
theorem dX2_drop_41 : decode cX2_drop 41 = .ok (.iadd, 1) := by decide +kernel
theorem dX2_drop_42 : decode cX2_drop 42 = .ok (.iaload, 1) := by decide +kernel
theorem dX2_drop_43 : decode cX2_drop 43 = .ok (.iastore, 1) := by decide +kernel
theorem dX2_drop_44 : decode cX2_drop 44 = .ok (.aload_n 0, 1) := by decide +kernel
theorem dX2_drop_45 : decode cX2_drop 45 = .ok (.getfield 13, 3) := by decide +kernel
theorem dX2_drop_48 : decode cX2_drop 48 = .ok (.iload_n 2, 1) := by decide +kernel
theorem dX2_drop_49 : decode cX2_drop 49 = .ok (.aload_n 0, 1) := by decide +kernel
theorem dX2_drop_50 : decode cX2_drop 50 = .ok (.getfield 13, 3) := by decide +kernel
theorem dX2_drop_53 : decode cX2_drop 53 = .ok (.iload_n 2, 1) := by decide +kernel
theorem dX2_drop_54 : decode cX2_drop 54 = .ok (.iconst 1, 1) := by decide +kernel
theorem dX2_drop_55 : decode cX2_drop 55 = .ok (.iadd, 1) := by decide +kernel
theorem dX2_drop_56 : decode cX2_drop 56 = .ok (.iaload, 1) := by decide +kernel
theorem dX2_drop_57 : decode cX2_drop 57 = .ok (.iastore, 1) := by decide +kernel
end
section
theorem dX2_drop_58 : decode cX2_drop 58 = .ok (.iinc 2 1, 3) := by decide +kernel
theorem dX2_drop_61 : decode cX2_drop 61 = .ok (.goto (-39), 3) := by decide +kernel
theorem dX2_drop_64 : decode cX2_drop 64 = .ok (.aload_n 0, 1) := by decide +kernel
theorem dX2_drop_65 : decode cX2_drop 65 = .ok (.iconst 0, 1) := by decide +kernel
theorem dX2_drop_66 : decode cX2_drop 66 = .ok (.putfield 43, 3) := by decide +kernel
theorem dX2_drop_69 : decode cX2_drop 69 = .ok (.iconst 1, 1) := by decide +kernel
theorem dX2_drop_70 : decode cX2_drop 70 = .ok (.ireturn, 1) := by decide +kernel
theorem dX2_noClause_0 : decode cX2_noClause 0 = .ok (.iload_n 1, 1) := by decide +kernel
theorem dX2_noClause_1 : decode cX2_noClause 1 = .ok (.ifCond .lt 11, 3) := by decide +kernel
theorem dX2_noClause_4 : decode cX2_noClause 4 = .ok (.iload_n 1, 1) := by decide +kernel
theorem dX2_noClause_5 : decode cX2_noClause 5 = .ok (.aload_n 0, 1) := by decide +kernel
theorem dX2_noClause_6 : decode cX2_noClause 6 = .ok (.getfield 40, 3) := by decide +kernel
theorem dX2_noClause_9 : decode cX2_noClause 9 = .ok (.if_icmp .lt 7, 3) := by decide +kernel
theorem dX2_noClause_12 : decode cX2_noClause 12 = .ok (.iconst 1, 1) := by decide +kernel
theorem dX2_noClause_13 : decode cX2_noClause 13 = .ok (.goto 4, 3) := by decide +kernel
theorem dX2_noClause_16 : decode cX2_noClause 16 = .ok (.iconst 0, 1) := by decide +kernel
theorem dX2_noClause_17 : decode cX2_noClause 17 = .ok (.ireturn, 1) := by decide +kernel
theorem dX2_clauses_0 : decode cX2_clauses 0 = .ok (.aload_n 0, 1) := by decide +kernel
theorem dX2_clauses_1 : decode cX2_clauses 1 = .ok (.getfield 40, 3) := by decide +kernel
theorem dX2_clauses_4 : decode cX2_clauses 4 = .ok (.ireturn, 1) := by decide +kernel
theorem dX2_play_0 : decode cX2_play 0 = .ok (.iload_n 1, 1) := by decide +kernel
theorem dX2_play_1 : decode cX2_play 1 = .ok (.ifCond .lt 19, 3) := by decide +kernel
theorem dX2_play_4 : decode cX2_play 4 = .ok (.iload_n 1, 1) := by decide +kernel
theorem dX2_play_5 : decode cX2_play 5 = .ok (.iconst 1, 1) := by decide +kernel
theorem dX2_play_6 : decode cX2_play 6 = .ok (.if_icmp .gt 14, 3) := by decide +kernel
theorem dX2_play_9 : decode cX2_play 9 = .ok (.aload_n 0, 1) := by decide +kernel
theorem dX2_play_10 : decode cX2_play 10 = .ok (.getfield 76, 3) := by decide +kernel
theorem dX2_play_13 : decode cX2_play 13 = .ok (.aload_n 0, 1) := by decide +kernel
theorem dX2_play_14 : decode cX2_play 14 = .ok (.getfield 30, 3) := by decide +kernel
theorem dX2_play_17 : decode cX2_play 17 = .ok (.if_icmp .ne 5, 3) := by decide +kernel
theorem dX2_play_20 : decode cX2_play 20 = .ok (.iconst (-1), 1) := by decide +kernel
theorem dX2_play_21 : decode cX2_play 21 = .ok (.ireturn, 1) := by decide +kernel
theorem dX2_play_22 : decode cX2_play 22 = .ok (.aload_n 0, 1) := by decide +kernel
theorem dX2_play_23 : decode cX2_play 23 = .ok (.iconst 2, 1) := by decide +kernel
theorem dX2_play_24 : decode cX2_play 24 = .ok (.aload_n 0, 1) := by decide +kernel
theorem dX2_play_25 : decode cX2_play 25 = .ok (.getfield 24, 3) := by decide +kernel
theorem dX2_play_28 : decode cX2_play 28 = .ok (.imul, 1) := by decide +kernel
theorem dX2_play_29 : decode cX2_play 29 = .ok (.iload_n 1, 1) := by decide +kernel
theorem dX2_play_30 : decode cX2_play 30 = .ok (.iadd, 1) := by decide +kernel
theorem dX2_play_31 : decode cX2_play 31 = .ok (.putfield 24, 3) := by decide +kernel
theorem dX2_play_34 : decode cX2_play 34 = .ok (.aload_n 0, 1) := by decide +kernel
theorem dX2_play_35 : decode cX2_play 35 = .ok (.dup, 1) := by decide +kernel
theorem dX2_play_36 : decode cX2_play 36 = .ok (.getfield 76, 3) := by decide +kernel
theorem dX2_play_39 : decode cX2_play 39 = .ok (.iconst 1, 1) := by decide +kernel
theorem dX2_play_40 : decode cX2_play 40 = .ok (.iadd, 1) := by decide +kernel
theorem dX2_play_41 : decode cX2_play 41 = .ok (.putfield 76, 3) := by decide +kernel
theorem dX2_play_44 : decode cX2_play 44 = .ok (.aload_n 0, 1) := by decide +kernel
theorem dX2_play_45 : decode cX2_play 45 = .ok (.getfield 76, 3) := by decide +kernel
theorem dX2_play_48 : decode cX2_play 48 = .ok (.iconst 1, 1) := by decide +kernel
theorem dX2_play_49 : decode cX2_play 49 = .ok (.isub, 1) := by decide +kernel
theorem dX2_play_50 : decode cX2_play 50 = .ok (.ireturn, 1) := by decide +kernel
theorem dX2_undo_0 : decode cX2_undo 0 = .ok (.aload_n 0, 1) := by decide +kernel
theorem dX2_undo_1 : decode cX2_undo 1 = .ok (.getfield 76, 3) := by decide +kernel
theorem dX2_undo_4 : decode cX2_undo 4 = .ok (.ifCond .ne 5, 3) := by decide +kernel
theorem dX2_undo_7 : decode cX2_undo 7 = .ok (.iconst 0, 1) := by decide +kernel
theorem dX2_undo_8 : decode cX2_undo 8 = .ok (.ireturn, 1) := by decide +kernel
theorem dX2_undo_9 : decode cX2_undo 9 = .ok (.aload_n 0, 1) := by decide +kernel
theorem dX2_undo_10 : decode cX2_undo 10 = .ok (.aload_n 0, 1) := by decide +kernel
theorem dX2_undo_11 : decode cX2_undo 11 = .ok (.getfield 24, 3) := by decide +kernel
theorem dX2_undo_14 : decode cX2_undo 14 = .ok (.iconst 2, 1) := by decide +kernel
theorem dX2_undo_15 : decode cX2_undo 15 = .ok (.idiv, 1) := by decide +kernel
theorem dX2_undo_16 : decode cX2_undo 16 = .ok (.putfield 24, 3) := by decide +kernel
theorem dX2_undo_19 : decode cX2_undo 19 = .ok (.aload_n 0, 1) := by decide +kernel
theorem dX2_undo_20 : decode cX2_undo 20 = .ok (.dup, 1) := by decide +kernel
theorem dX2_undo_21 : decode cX2_undo 21 = .ok (.getfield 76, 3) := by decide +kernel
theorem dX2_undo_24 : decode cX2_undo 24 = .ok (.iconst 1, 1) := by decide +kernel
theorem dX2_undo_25 : decode cX2_undo 25 = .ok (.isub, 1) := by decide +kernel
theorem dX2_undo_26 : decode cX2_undo 26 = .ok (.putfield 76, 3) := by decide +kernel
theorem dX2_undo_29 : decode cX2_undo 29 = .ok (.iconst 1, 1) := by decide +kernel
theorem dX2_undo_30 : decode cX2_undo 30 = .ok (.ireturn, 1) := by decide +kernel
theorem dX2_played_0 : decode cX2_played 0 = .ok (.aload_n 0, 1) := by decide +kernel
theorem dX2_played_1 : decode cX2_played 1 = .ok (.getfield 76, 3) := by decide +kernel
theorem dX2_played_4 : decode cX2_played 4 = .ok (.ireturn, 1) := by decide +kernel
theorem dX2_wins_0 : decode cX2_wins 0 = .ok (.aload_n 0, 1) := by decide +kernel
theorem dX2_wins_1 : decode cX2_wins 1 = .ok (.invokevirtual 79, 3) := by decide +kernel
theorem dX2_wins_4 : decode cX2_wins 4 = .ok (.aload_n 0, 1) := by decide +kernel
theorem dX2_wins_5 : decode cX2_wins 5 = .ok (.getfield 20, 3) := by decide +kernel
theorem dX2_wins_8 : decode cX2_wins 8 = .ok (.aload_n 0, 1) := by decide +kernel
theorem dX2_wins_9 : decode cX2_wins 9 = .ok (.getfield 24, 3) := by decide +kernel
theorem dX2_wins_12 : decode cX2_wins 12 = .ok (.baload, 1) := by decide +kernel
theorem dX2_wins_13 : decode cX2_wins 13 = .ok (.ireturn, 1) := by decide +kernel
theorem dX2_look_0 : decode cX2_look 0 = .ok (.aload_n 0, 1) := by decide +kernel
theorem dX2_look_1 : decode cX2_look 1 = .ok (.getfield 43, 3) := by decide +kernel
theorem dX2_look_4 : decode cX2_look 4 = .ok (.ifCond .eq 4, 3) := by decide +kernel
theorem dX2_look_7 : decode cX2_look 7 = .ok (.return_, 1) := by decide +kernel
theorem dX2_look_8 : decode cX2_look 8 = .ok (.aload_n 0, 1) := by decide +kernel
theorem dX2_look_9 : decode cX2_look 9 = .ok (.iconst (-1), 1) := by decide +kernel
theorem dX2_look_10 : decode cX2_look 10 = .ok (.putfield 16, 3) := by decide +kernel
theorem dX2_look_13 : decode cX2_look 13 = .ok (.aload_n 0, 1) := by decide +kernel
theorem dX2_look_14 : decode cX2_look 14 = .ok (.iconst 0, 1) := by decide +kernel
theorem dX2_look_15 : decode cX2_look 15 = .ok (.putfield 50, 3) := by decide +kernel
theorem dX2_look_18 : decode cX2_look 18 = .ok (.aload_n 0, 1) := by decide +kernel
theorem dX2_look_19 : decode cX2_look 19 = .ok (.invokevirtual 73, 3) := by decide +kernel
theorem dX2_look_22 : decode cX2_look 22 = .ok (.aload_n 0, 1) := by decide +kernel
theorem dX2_look_23 : decode cX2_look 23 = .ok (.iconst 1, 1) := by decide +kernel
theorem dX2_look_24 : decode cX2_look 24 = .ok (.putfield 43, 3) := by decide +kernel
theorem dX2_look_27 : decode cX2_look 27 = .ok (.return_, 1) := by decide +kernel
theorem dX2_fill_0 : decode cX2_fill 0 = .ok (.iconst 1, 1) := by decide +kernel
theorem dX2_fill_1 : decode cX2_fill 1 = .ok (.aload_n 0, 1) := by decide +kernel
theorem dX2_fill_2 : decode cX2_fill 2 = .ok (.getfield 30, 3) := by decide +kernel
theorem dX2_fill_5 : decode cX2_fill 5 = .ok (.ishl, 1) := by decide +kernel
theorem dX2_fill_6 : decode cX2_fill 6 = .ok (.istore_n 1, 1) := by decide +kernel
theorem dX2_fill_7 : decode cX2_fill 7 = .ok (.iload_n 1, 1) := by decide +kernel
theorem dX2_fill_8 : decode cX2_fill 8 = .ok (.iconst 2, 1) := by decide +kernel
theorem dX2_fill_9 : decode cX2_fill 9 = .ok (.aload_n 0, 1) := by decide +kernel
theorem dX2_fill_10 : decode cX2_fill 10 = .ok (.getfield 30, 3) := by decide +kernel
theorem dX2_fill_13 : decode cX2_fill 13 = .ok (.ishl, 1) := by decide +kernel
theorem dX2_fill_14 : decode cX2_fill 14 = .ok (.if_icmp .ge 24, 3) := by decide +kernel
theorem dX2_fill_17 : decode cX2_fill 17 = .ok (.aload_n 0, 1) := by decide +kernel
theorem dX2_fill_18 : decode cX2_fill 18 = .ok (.getfield 20, 3) := by decide +kernel
theorem dX2_fill_21 : decode cX2_fill 21 = .ok (.iload_n 1, 1) := by decide +kernel
theorem dX2_fill_22 : decode cX2_fill 22 = .ok (.aload_n 0, 1) := by decide +kernel
theorem dX2_fill_23 : decode cX2_fill 23 = .ok (.aload_n 0, 1) := by decide +kernel
theorem dX2_fill_24 : decode cX2_fill 24 = .ok (.iload_n 1, 1) := by decide +kernel
theorem dX2_fill_25 : decode cX2_fill 25 = .ok (.invokevirtual 63, 3) := by decide +kernel
theorem dX2_fill_28 : decode cX2_fill 28 = .ok (.invokevirtual 67, 3) := by decide +kernel
theorem dX2_fill_31 : decode cX2_fill 31 = .ok (.bastore, 1) := by decide +kernel
theorem dX2_fill_32 : decode cX2_fill 32 = .ok (.iinc 1 1, 3) := by decide +kernel
theorem dX2_fill_35 : decode cX2_fill 35 = .ok (.goto (-28), 3) := by decide +kernel
theorem dX2_fill_38 : decode cX2_fill 38 = .ok (.aload_n 0, 1) := by decide +kernel
theorem dX2_fill_39 : decode cX2_fill 39 = .ok (.getfield 30, 3) := by decide +kernel
theorem dX2_fill_42 : decode cX2_fill 42 = .ok (.iconst 1, 1) := by decide +kernel
theorem dX2_fill_43 : decode cX2_fill 43 = .ok (.isub, 1) := by decide +kernel
theorem dX2_fill_44 : decode cX2_fill 44 = .ok (.istore_n 1, 1) := by decide +kernel
theorem dX2_fill_45 : decode cX2_fill 45 = .ok (.iload_n 1, 1) := by decide +kernel
theorem dX2_fill_46 : decode cX2_fill 46 = .ok (.ifCond .lt 101, 3) := by decide +kernel
theorem dX2_fill_49 : decode cX2_fill 49 = .ok (.iconst 1, 1) := by decide +kernel
theorem dX2_fill_50 : decode cX2_fill 50 = .ok (.iload_n 1, 1) := by decide +kernel
theorem dX2_fill_51 : decode cX2_fill 51 = .ok (.ishl, 1) := by decide +kernel
theorem dX2_fill_52 : decode cX2_fill 52 = .ok (.istore_n 2, 1) := by decide +kernel
theorem dX2_fill_53 : decode cX2_fill 53 = .ok (.iload_n 2, 1) := by decide +kernel
theorem dX2_fill_54 : decode cX2_fill 54 = .ok (.iconst 2, 1) := by decide +kernel
theorem dX2_fill_55 : decode cX2_fill 55 = .ok (.iload_n 1, 1) := by decide +kernel
theorem dX2_fill_56 : decode cX2_fill 56 = .ok (.ishl, 1) := by decide +kernel
theorem dX2_fill_57 : decode cX2_fill 57 = .ok (.if_icmp .ge 84, 3) := by decide +kernel
theorem dX2_fill_60 : decode cX2_fill 60 = .ok (.aload_n 0, 1) := by decide +kernel
theorem dX2_fill_61 : decode cX2_fill 61 = .ok (.getfield 20, 3) := by decide +kernel
theorem dX2_fill_64 : decode cX2_fill 64 = .ok (.iload_n 2, 1) := by decide +kernel
theorem dX2_fill_65 : decode cX2_fill 65 = .ok (.aload_n 0, 1) := by decide +kernel
theorem dX2_fill_66 : decode cX2_fill 66 = .ok (.iload_n 1, 1) := by decide +kernel
theorem dX2_fill_67 : decode cX2_fill 67 = .ok (.invokevirtual 70, 3) := by decide +kernel
theorem dX2_fill_70 : decode cX2_fill 70 = .ok (.ifCond .eq 35, 3) := by decide +kernel
theorem dX2_fill_73 : decode cX2_fill 73 = .ok (.aload_n 0, 1) := by decide +kernel
theorem dX2_fill_74 : decode cX2_fill 74 = .ok (.getfield 20, 3) := by decide +kernel
theorem dX2_fill_77 : decode cX2_fill 77 = .ok (.iconst 2, 1) := by decide +kernel
theorem dX2_fill_78 : decode cX2_fill 78 = .ok (.iload_n 2, 1) := by decide +kernel
theorem dX2_fill_79 : decode cX2_fill 79 = .ok (.imul, 1) := by decide +kernel
theorem dX2_fill_80 : decode cX2_fill 80 = .ok (.baload, 1) := by decide +kernel
theorem dX2_fill_81 : decode cX2_fill 81 = .ok (.ifCond .eq 20, 3) := by decide +kernel
theorem dX2_fill_84 : decode cX2_fill 84 = .ok (.aload_n 0, 1) := by decide +kernel
theorem dX2_fill_85 : decode cX2_fill 85 = .ok (.getfield 20, 3) := by decide +kernel
theorem dX2_fill_88 : decode cX2_fill 88 = .ok (.iconst 2, 1) := by decide +kernel
theorem dX2_fill_89 : decode cX2_fill 89 = .ok (.iload_n 2, 1) := by decide +kernel
theorem dX2_fill_90 : decode cX2_fill 90 = .ok (.imul, 1) := by decide +kernel
theorem dX2_fill_91 : decode cX2_fill 91 = .ok (.iconst 1, 1) := by decide +kernel
theorem dX2_fill_92 : decode cX2_fill 92 = .ok (.iadd, 1) := by decide +kernel
theorem dX2_fill_93 : decode cX2_fill 93 = .ok (.baload, 1) := by decide +kernel
theorem dX2_fill_94 : decode cX2_fill 94 = .ok (.ifCond .eq 7, 3) := by decide +kernel
theorem dX2_fill_97 : decode cX2_fill 97 = .ok (.iconst 1, 1) := by decide +kernel
theorem dX2_fill_98 : decode cX2_fill 98 = .ok (.goto 36, 3) := by decide +kernel
theorem dX2_fill_101 : decode cX2_fill 101 = .ok (.iconst 0, 1) := by decide +kernel
theorem dX2_fill_102 : decode cX2_fill 102 = .ok (.goto 32, 3) := by decide +kernel
theorem dX2_fill_105 : decode cX2_fill 105 = .ok (.aload_n 0, 1) := by decide +kernel
theorem dX2_fill_106 : decode cX2_fill 106 = .ok (.getfield 20, 3) := by decide +kernel
theorem dX2_fill_109 : decode cX2_fill 109 = .ok (.iconst 2, 1) := by decide +kernel
theorem dX2_fill_110 : decode cX2_fill 110 = .ok (.iload_n 2, 1) := by decide +kernel
theorem dX2_fill_111 : decode cX2_fill 111 = .ok (.imul, 1) := by decide +kernel
theorem dX2_fill_112 : decode cX2_fill 112 = .ok (.baload, 1) := by decide +kernel
theorem dX2_fill_113 : decode cX2_fill 113 = .ok (.ifCond .ne 16, 3) := by decide +kernel
theorem dX2_fill_116 : decode cX2_fill 116 = .ok (.aload_n 0, 1) := by decide +kernel
theorem dX2_fill_117 : decode cX2_fill 117 = .ok (.getfield 20, 3) := by decide +kernel
theorem dX2_fill_120 : decode cX2_fill 120 = .ok (.iconst 2, 1) := by decide +kernel
theorem dX2_fill_121 : decode cX2_fill 121 = .ok (.iload_n 2, 1) := by decide +kernel
theorem dX2_fill_122 : decode cX2_fill 122 = .ok (.imul, 1) := by decide +kernel
theorem dX2_fill_123 : decode cX2_fill 123 = .ok (.iconst 1, 1) := by decide +kernel
theorem dX2_fill_124 : decode cX2_fill 124 = .ok (.iadd, 1) := by decide +kernel
theorem dX2_fill_125 : decode cX2_fill 125 = .ok (.baload, 1) := by decide +kernel
theorem dX2_fill_126 : decode cX2_fill 126 = .ok (.ifCond .eq 7, 3) := by decide +kernel
theorem dX2_fill_129 : decode cX2_fill 129 = .ok (.iconst 1, 1) := by decide +kernel
theorem dX2_fill_130 : decode cX2_fill 130 = .ok (.goto 4, 3) := by decide +kernel
theorem dX2_fill_133 : decode cX2_fill 133 = .ok (.iconst 0, 1) := by decide +kernel
theorem dX2_fill_134 : decode cX2_fill 134 = .ok (.bastore, 1) := by decide +kernel
theorem dX2_fill_135 : decode cX2_fill 135 = .ok (.iinc 2 1, 3) := by decide +kernel
theorem dX2_fill_138 : decode cX2_fill 138 = .ok (.goto (-85), 3) := by decide +kernel
theorem dX2_fill_141 : decode cX2_fill 141 = .ok (.iinc 1 (-1), 3) := by decide +kernel
theorem dX2_fill_144 : decode cX2_fill 144 = .ok (.goto (-99), 3) := by decide +kernel
theorem dX2_fill_147 : decode cX2_fill 147 = .ok (.return_, 1) := by decide +kernel
theorem dX2_onesAt_0 : decode cX2_onesAt 0 = .ok (.iconst 0, 1) := by decide +kernel
theorem dX2_onesAt_1 : decode cX2_onesAt 1 = .ok (.istore_n 2, 1) := by decide +kernel
theorem dX2_onesAt_2 : decode cX2_onesAt 2 = .ok (.iconst 0, 1) := by decide +kernel
theorem dX2_onesAt_3 : decode cX2_onesAt 3 = .ok (.istore_n 3, 1) := by decide +kernel
theorem dX2_onesAt_4 : decode cX2_onesAt 4 = .ok (.iload_n 3, 1) := by decide +kernel
theorem dX2_onesAt_5 : decode cX2_onesAt 5 = .ok (.aload_n 0, 1) := by decide +kernel
theorem dX2_onesAt_6 : decode cX2_onesAt 6 = .ok (.getfield 30, 3) := by decide +kernel
theorem dX2_onesAt_9 : decode cX2_onesAt 9 = .ok (.if_icmp .ge 35, 3) := by decide +kernel
theorem dX2_onesAt_12 : decode cX2_onesAt 12 = .ok (.iload_n 1, 1) := by decide +kernel
theorem dX2_onesAt_13 : decode cX2_onesAt 13 = .ok (.aload_n 0, 1) := by decide +kernel
theorem dX2_onesAt_14 : decode cX2_onesAt 14 = .ok (.getfield 30, 3) := by decide +kernel
theorem dX2_onesAt_17 : decode cX2_onesAt 17 = .ok (.iconst 1, 1) := by decide +kernel
theorem dX2_onesAt_18 : decode cX2_onesAt 18 = .ok (.isub, 1) := by decide +kernel
theorem dX2_onesAt_19 : decode cX2_onesAt 19 = .ok (.iload_n 3, 1) := by decide +kernel
theorem dX2_onesAt_20 : decode cX2_onesAt 20 = .ok (.isub, 1) := by decide +kernel
theorem dX2_onesAt_21 : decode cX2_onesAt 21 = .ok (.ishr, 1) := by decide +kernel
theorem dX2_onesAt_22 : decode cX2_onesAt 22 = .ok (.iconst 1, 1) := by decide +kernel
theorem dX2_onesAt_23 : decode cX2_onesAt 23 = .ok (.iand, 1) := by decide +kernel
theorem dX2_onesAt_24 : decode cX2_onesAt 24 = .ok (.iconst 1, 1) := by decide +kernel
theorem dX2_onesAt_25 : decode cX2_onesAt 25 = .ok (.if_icmp .ne 11, 3) := by decide +kernel
theorem dX2_onesAt_28 : decode cX2_onesAt 28 = .ok (.iload_n 2, 1) := by decide +kernel
theorem dX2_onesAt_29 : decode cX2_onesAt 29 = .ok (.iconst 1, 1) := by decide +kernel
theorem dX2_onesAt_30 : decode cX2_onesAt 30 = .ok (.iload_n 3, 1) := by decide +kernel
theorem dX2_onesAt_31 : decode cX2_onesAt 31 = .ok (.ishl, 1) := by decide +kernel
theorem dX2_onesAt_32 : decode cX2_onesAt 32 = .ok (.iadd, 1) := by decide +kernel
theorem dX2_onesAt_33 : decode cX2_onesAt 33 = .ok (.goto 4, 3) := by decide +kernel
theorem dX2_onesAt_36 : decode cX2_onesAt 36 = .ok (.iload_n 2, 1) := by decide +kernel
theorem dX2_onesAt_37 : decode cX2_onesAt 37 = .ok (.istore_n 2, 1) := by decide +kernel
theorem dX2_onesAt_38 : decode cX2_onesAt 38 = .ok (.iinc 3 1, 3) := by decide +kernel
theorem dX2_onesAt_41 : decode cX2_onesAt 41 = .ok (.goto (-37), 3) := by decide +kernel
theorem dX2_onesAt_44 : decode cX2_onesAt 44 = .ok (.iload_n 2, 1) := by decide +kernel
theorem dX2_onesAt_45 : decode cX2_onesAt 45 = .ok (.ireturn, 1) := by decide +kernel
theorem dX2_allHold_0 : decode cX2_allHold 0 = .ok (.aload_n 0, 1) := by decide +kernel
theorem dX2_allHold_1 : decode cX2_allHold 1 = .ok (.getfield 50, 3) := by decide +kernel
theorem dX2_allHold_4 : decode cX2_allHold 4 = .ok (.ifCond .eq 18, 3) := by decide +kernel
theorem dX2_allHold_7 : decode cX2_allHold 7 = .ok (.aload_n 0, 1) := by decide +kernel
theorem dX2_allHold_8 : decode cX2_allHold 8 = .ok (.getfield 53, 3) := by decide +kernel
theorem dX2_allHold_11 : decode cX2_allHold 11 = .ok (.aload_n 0, 1) := by decide +kernel
theorem dX2_allHold_12 : decode cX2_allHold 12 = .ok (.getfield 56, 3) := by decide +kernel
theorem dX2_allHold_15 : decode cX2_allHold 15 = .ok (.iload_n 1, 1) := by decide +kernel
theorem dX2_allHold_16 : decode cX2_allHold 16 = .ok (.invokestatic 59, 3) := by decide +kernel
theorem dX2_allHold_19 : decode cX2_allHold 19 = .ok (.ifCond .eq 7, 3) := by decide +kernel
theorem dX2_allHold_22 : decode cX2_allHold 22 = .ok (.iconst 1, 1) := by decide +kernel
theorem dX2_allHold_23 : decode cX2_allHold 23 = .ok (.goto 4, 3) := by decide +kernel
theorem dX2_allHold_26 : decode cX2_allHold 26 = .ok (.iconst 0, 1) := by decide +kernel
theorem dX2_allHold_27 : decode cX2_allHold 27 = .ok (.istore_n 2, 1) := by decide +kernel
theorem dX2_allHold_28 : decode cX2_allHold 28 = .ok (.iconst 0, 1) := by decide +kernel
theorem dX2_allHold_29 : decode cX2_allHold 29 = .ok (.istore_n 3, 1) := by decide +kernel
theorem dX2_allHold_30 : decode cX2_allHold 30 = .ok (.iload_n 3, 1) := by decide +kernel
theorem dX2_allHold_31 : decode cX2_allHold 31 = .ok (.aload_n 0, 1) := by decide +kernel
theorem dX2_allHold_32 : decode cX2_allHold 32 = .ok (.getfield 40, 3) := by decide +kernel
theorem dX2_allHold_35 : decode cX2_allHold 35 = .ok (.if_icmp .ge 46, 3) := by decide +kernel
theorem dX2_allHold_38 : decode cX2_allHold 38 = .ok (.iload_n 2, 1) := by decide +kernel
theorem dX2_allHold_39 : decode cX2_allHold 39 = .ok (.ifCond .eq 34, 3) := by decide +kernel
theorem dX2_allHold_42 : decode cX2_allHold 42 = .ok (.iload_n 3, 1) := by decide +kernel
theorem dX2_allHold_43 : decode cX2_allHold 43 = .ok (.aload_n 0, 1) := by decide +kernel
theorem dX2_allHold_44 : decode cX2_allHold 44 = .ok (.getfield 16, 3) := by decide +kernel
theorem dX2_allHold_47 : decode cX2_allHold 47 = .ok (.if_icmp .eq 22, 3) := by decide +kernel
theorem dX2_allHold_50 : decode cX2_allHold 50 = .ok (.aload_n 0, 1) := by decide +kernel
theorem dX2_allHold_51 : decode cX2_allHold 51 = .ok (.getfield 7, 3) := by decide +kernel
theorem dX2_allHold_54 : decode cX2_allHold 54 = .ok (.iload_n 3, 1) := by decide +kernel
theorem dX2_allHold_55 : decode cX2_allHold 55 = .ok (.iaload, 1) := by decide +kernel
theorem dX2_allHold_56 : decode cX2_allHold 56 = .ok (.aload_n 0, 1) := by decide +kernel
theorem dX2_allHold_57 : decode cX2_allHold 57 = .ok (.getfield 13, 3) := by decide +kernel
theorem dX2_allHold_60 : decode cX2_allHold 60 = .ok (.iload_n 3, 1) := by decide +kernel
theorem dX2_allHold_61 : decode cX2_allHold 61 = .ok (.iaload, 1) := by decide +kernel
theorem dX2_allHold_62 : decode cX2_allHold 62 = .ok (.iload_n 1, 1) := by decide +kernel
theorem dX2_allHold_63 : decode cX2_allHold 63 = .ok (.invokestatic 59, 3) := by decide +kernel
theorem dX2_allHold_66 : decode cX2_allHold 66 = .ok (.ifCond .eq 7, 3) := by decide +kernel
theorem dX2_allHold_69 : decode cX2_allHold 69 = .ok (.iconst 1, 1) := by decide +kernel
theorem dX2_allHold_70 : decode cX2_allHold 70 = .ok (.goto 4, 3) := by decide +kernel
theorem dX2_allHold_73 : decode cX2_allHold 73 = .ok (.iconst 0, 1) := by decide +kernel
theorem dX2_allHold_74 : decode cX2_allHold 74 = .ok (.istore_n 2, 1) := by decide +kernel
theorem dX2_allHold_75 : decode cX2_allHold 75 = .ok (.iinc 3 1, 3) := by decide +kernel
theorem dX2_allHold_78 : decode cX2_allHold 78 = .ok (.goto (-48), 3) := by decide +kernel
theorem dX2_allHold_81 : decode cX2_allHold 81 = .ok (.iload_n 2, 1) := by decide +kernel
theorem dX2_allHold_82 : decode cX2_allHold 82 = .ok (.ireturn, 1) := by decide +kernel
theorem dX2_holds_0 : decode cX2_holds 0 = .ok (.iload_n 0, 1) := by decide +kernel
theorem dX2_holds_1 : decode cX2_holds 1 = .ok (.iload_n 2, 1) := by decide +kernel
theorem dX2_holds_2 : decode cX2_holds 2 = .ok (.iand, 1) := by decide +kernel
theorem dX2_holds_3 : decode cX2_holds 3 = .ok (.ifCond .ne 11, 3) := by decide +kernel
theorem dX2_holds_6 : decode cX2_holds 6 = .ok (.iload_n 1, 1) := by decide +kernel
theorem dX2_holds_7 : decode cX2_holds 7 = .ok (.iload_n 2, 1) := by decide +kernel
theorem dX2_holds_8 : decode cX2_holds 8 = .ok (.iconst (-1), 1) := by decide +kernel
theorem dX2_holds_9 : decode cX2_holds 9 = .ok (.ixor, 1) := by decide +kernel
theorem dX2_holds_10 : decode cX2_holds 10 = .ok (.iand, 1) := by decide +kernel
theorem dX2_holds_11 : decode cX2_holds 11 = .ok (.ifCond .eq 7, 3) := by decide +kernel
theorem dX2_holds_14 : decode cX2_holds 14 = .ok (.iconst 1, 1) := by decide +kernel
theorem dX2_holds_15 : decode cX2_holds 15 = .ok (.goto 4, 3) := by decide +kernel
theorem dX2_holds_18 : decode cX2_holds 18 = .ok (.iconst 0, 1) := by decide +kernel
theorem dX2_holds_19 : decode cX2_holds 19 = .ok (.ireturn, 1) := by decide +kernel
theorem dX2_isAdams_0 : decode cX2_isAdams 0 = .ok (.aload_n 0, 1) := by decide +kernel
theorem dX2_isAdams_1 : decode cX2_isAdams 1 = .ok (.getfield 33, 3) := by decide +kernel
theorem dX2_isAdams_4 : decode cX2_isAdams 4 = .ok (.iload_n 1, 1) := by decide +kernel
theorem dX2_isAdams_5 : decode cX2_isAdams 5 = .ok (.ishr, 1) := by decide +kernel
theorem dX2_isAdams_6 : decode cX2_isAdams 6 = .ok (.iconst 1, 1) := by decide +kernel
theorem dX2_isAdams_7 : decode cX2_isAdams 7 = .ok (.iand, 1) := by decide +kernel
theorem dX2_isAdams_8 : decode cX2_isAdams 8 = .ok (.iconst 1, 1) := by decide +kernel
theorem dX2_isAdams_9 : decode cX2_isAdams 9 = .ok (.if_icmp .ne 7, 3) := by decide +kernel
theorem dX2_isAdams_12 : decode cX2_isAdams 12 = .ok (.iconst 1, 1) := by decide +kernel
theorem dX2_isAdams_13 : decode cX2_isAdams 13 = .ok (.goto 4, 3) := by decide +kernel
theorem dX2_isAdams_16 : decode cX2_isAdams 16 = .ok (.iconst 0, 1) := by decide +kernel
theorem dX2_isAdams_17 : decode cX2_isAdams 17 = .ok (.ireturn, 1) := by decide +kernel
theorem dX2_best_0 : decode cX2_best 0 = .ok (.aload_n 0, 1) := by decide +kernel
theorem dX2_best_1 : decode cX2_best 1 = .ok (.invokevirtual 79, 3) := by decide +kernel
theorem dX2_best_4 : decode cX2_best 4 = .ok (.aload_n 0, 1) := by decide +kernel
theorem dX2_best_5 : decode cX2_best 5 = .ok (.getfield 76, 3) := by decide +kernel
theorem dX2_best_8 : decode cX2_best 8 = .ok (.aload_n 0, 1) := by decide +kernel
theorem dX2_best_9 : decode cX2_best 9 = .ok (.getfield 30, 3) := by decide +kernel
theorem dX2_best_12 : decode cX2_best 12 = .ok (.if_icmp .ne 7, 3) := by decide +kernel
theorem dX2_best_15 : decode cX2_best 15 = .ok (.iconst (-1), 1) := by decide +kernel
theorem dX2_best_16 : decode cX2_best 16 = .ok (.goto 15, 3) := by decide +kernel
theorem dX2_best_19 : decode cX2_best 19 = .ok (.aload_n 0, 1) := by decide +kernel
theorem dX2_best_20 : decode cX2_best 20 = .ok (.aload_n 0, 1) := by decide +kernel
theorem dX2_best_21 : decode cX2_best 21 = .ok (.getfield 24, 3) := by decide +kernel
theorem dX2_best_24 : decode cX2_best 24 = .ok (.aload_n 0, 1) := by decide +kernel
theorem dX2_best_25 : decode cX2_best 25 = .ok (.getfield 76, 3) := by decide +kernel
theorem dX2_best_28 : decode cX2_best 28 = .ok (.invokevirtual 82, 3) := by decide +kernel
theorem dX2_best_31 : decode cX2_best 31 = .ok (.ireturn, 1) := by decide +kernel
theorem dX2_move_0 : decode cX2_move 0 = .ok (.aload_n 0, 1) := by decide +kernel
theorem dX2_move_1 : decode cX2_move 1 = .ok (.getfield 20, 3) := by decide +kernel
theorem dX2_move_4 : decode cX2_move 4 = .ok (.iconst 2, 1) := by decide +kernel
theorem dX2_move_5 : decode cX2_move 5 = .ok (.iload_n 1, 1) := by decide +kernel
theorem dX2_move_6 : decode cX2_move 6 = .ok (.imul, 1) := by decide +kernel
theorem dX2_move_7 : decode cX2_move 7 = .ok (.baload, 1) := by decide +kernel
theorem dX2_move_8 : decode cX2_move 8 = .ok (.aload_n 0, 1) := by decide +kernel
theorem dX2_move_9 : decode cX2_move 9 = .ok (.iload_n 2, 1) := by decide +kernel
theorem dX2_move_10 : decode cX2_move 10 = .ok (.invokevirtual 70, 3) := by decide +kernel
theorem dX2_move_13 : decode cX2_move 13 = .ok (.if_icmp .eq 7, 3) := by decide +kernel
theorem dX2_move_16 : decode cX2_move 16 = .ok (.iconst 1, 1) := by decide +kernel
theorem dX2_move_17 : decode cX2_move 17 = .ok (.goto 4, 3) := by decide +kernel
theorem dX2_move_20 : decode cX2_move 20 = .ok (.iconst 0, 1) := by decide +kernel
theorem dX2_move_21 : decode cX2_move 21 = .ok (.istore_n 3, 1) := by decide +kernel
theorem dX2_move_22 : decode cX2_move 22 = .ok (.aload_n 0, 1) := by decide +kernel
theorem dX2_move_23 : decode cX2_move 23 = .ok (.getfield 20, 3) := by decide +kernel
theorem dX2_move_26 : decode cX2_move 26 = .ok (.iconst 2, 1) := by decide +kernel
theorem dX2_move_27 : decode cX2_move 27 = .ok (.iload_n 1, 1) := by decide +kernel
theorem dX2_move_28 : decode cX2_move 28 = .ok (.imul, 1) := by decide +kernel
theorem dX2_move_29 : decode cX2_move 29 = .ok (.iconst 1, 1) := by decide +kernel
theorem dX2_move_30 : decode cX2_move 30 = .ok (.iadd, 1) := by decide +kernel
theorem dX2_move_31 : decode cX2_move 31 = .ok (.baload, 1) := by decide +kernel
theorem dX2_move_32 : decode cX2_move 32 = .ok (.aload_n 0, 1) := by decide +kernel
theorem dX2_move_33 : decode cX2_move 33 = .ok (.iload_n 2, 1) := by decide +kernel
theorem dX2_move_34 : decode cX2_move 34 = .ok (.invokevirtual 70, 3) := by decide +kernel
theorem dX2_move_37 : decode cX2_move 37 = .ok (.if_icmp .eq 7, 3) := by decide +kernel
theorem dX2_move_40 : decode cX2_move 40 = .ok (.iconst 1, 1) := by decide +kernel
theorem dX2_move_41 : decode cX2_move 41 = .ok (.goto 4, 3) := by decide +kernel
theorem dX2_move_44 : decode cX2_move 44 = .ok (.iconst 0, 1) := by decide +kernel
theorem dX2_move_45 : decode cX2_move 45 = .ok (.istore 4, 2) := by decide +kernel
theorem dX2_move_47 : decode cX2_move 47 = .ok (.iload_n 3, 1) := by decide +kernel
theorem dX2_move_48 : decode cX2_move 48 = .ok (.ifCond .ne 12, 3) := by decide +kernel
theorem dX2_move_51 : decode cX2_move 51 = .ok (.iload 4, 2) := by decide +kernel
theorem dX2_move_53 : decode cX2_move 53 = .ok (.ifCond .eq 7, 3) := by decide +kernel
theorem dX2_move_56 : decode cX2_move 56 = .ok (.iconst 1, 1) := by decide +kernel
theorem dX2_move_57 : decode cX2_move 57 = .ok (.goto 4, 3) := by decide +kernel
theorem dX2_move_60 : decode cX2_move 60 = .ok (.iconst 0, 1) := by decide +kernel
theorem dX2_move_61 : decode cX2_move 61 = .ok (.ireturn, 1) := by decide +kernel
theorem dX2_reply_0 : decode cX2_reply 0 = .ok (.aload_n 0, 1) := by decide +kernel
theorem dX2_reply_1 : decode cX2_reply 1 = .ok (.iload_n 1, 1) := by decide +kernel
theorem dX2_reply_2 : decode cX2_reply 2 = .ok (.iconst 0, 1) := by decide +kernel
theorem dX2_reply_3 : decode cX2_reply 3 = .ok (.iload_n 2, 1) := by decide +kernel
theorem dX2_reply_4 : decode cX2_reply 4 = .ok (.invokevirtual 86, 3) := by decide +kernel
theorem dX2_reply_7 : decode cX2_reply 7 = .ok (.ireturn, 1) := by decide +kernel
theorem dX2_led_0 : decode cX2_led 0 = .ok (.iload_n 1, 1) := by decide +kernel
theorem dX2_led_1 : decode cX2_led 1 = .ok (.ifCond .lt 11, 3) := by decide +kernel
theorem dX2_led_4 : decode cX2_led 4 = .ok (.iload_n 1, 1) := by decide +kernel
theorem dX2_led_5 : decode cX2_led 5 = .ok (.aload_n 0, 1) := by decide +kernel
theorem dX2_led_6 : decode cX2_led 6 = .ok (.getfield 30, 3) := by decide +kernel
theorem dX2_led_9 : decode cX2_led 9 = .ok (.if_icmp .lt 5, 3) := by decide +kernel
theorem dX2_led_12 : decode cX2_led 12 = .ok (.iconst (-1), 1) := by decide +kernel
theorem dX2_led_13 : decode cX2_led 13 = .ok (.ireturn, 1) := by decide +kernel
theorem dX2_led_14 : decode cX2_led 14 = .ok (.aload_n 0, 1) := by decide +kernel
theorem dX2_led_15 : decode cX2_led 15 = .ok (.invokevirtual 79, 3) := by decide +kernel
theorem dX2_led_18 : decode cX2_led 18 = .ok (.iconst 1, 1) := by decide +kernel
theorem dX2_led_19 : decode cX2_led 19 = .ok (.istore 4, 2) := by decide +kernel
theorem dX2_led_21 : decode cX2_led 21 = .ok (.iconst 0, 1) := by decide +kernel
theorem dX2_led_22 : decode cX2_led 22 = .ok (.istore 5, 2) := by decide +kernel
theorem dX2_led_24 : decode cX2_led 24 = .ok (.iconst 0, 1) := by decide +kernel
theorem dX2_led_25 : decode cX2_led 25 = .ok (.istore 6, 2) := by decide +kernel
theorem dX2_led_27 : decode cX2_led 27 = .ok (.iload 6, 2) := by decide +kernel
theorem dX2_led_29 : decode cX2_led 29 = .ok (.iload_n 1, 1) := by decide +kernel
theorem dX2_led_30 : decode cX2_led 30 = .ok (.if_icmp .gt 47, 3) := by decide +kernel
theorem dX2_led_33 : decode cX2_led 33 = .ok (.aload_n 0, 1) := by decide +kernel
theorem dX2_led_34 : decode cX2_led 34 = .ok (.iload 6, 2) := by decide +kernel
theorem dX2_led_36 : decode cX2_led 36 = .ok (.invokevirtual 70, 3) := by decide +kernel
theorem dX2_led_39 : decode cX2_led 39 = .ok (.iload_n 2, 1) := by decide +kernel
theorem dX2_led_40 : decode cX2_led 40 = .ok (.if_icmp .ne 14, 3) := by decide +kernel
theorem dX2_led_43 : decode cX2_led 43 = .ok (.aload_n 0, 1) := by decide +kernel
theorem dX2_led_44 : decode cX2_led 44 = .ok (.iload 4, 2) := by decide +kernel
theorem dX2_led_46 : decode cX2_led 46 = .ok (.iload 6, 2) := by decide +kernel
theorem dX2_led_48 : decode cX2_led 48 = .ok (.invokevirtual 82, 3) := by decide +kernel
theorem dX2_led_51 : decode cX2_led 51 = .ok (.goto 9, 3) := by decide +kernel
theorem dX2_led_54 : decode cX2_led 54 = .ok (.iload_n 3, 1) := by decide +kernel
theorem dX2_led_55 : decode cX2_led 55 = .ok (.iload 6, 2) := by decide +kernel
theorem dX2_led_57 : decode cX2_led 57 = .ok (.ishr, 1) := by decide +kernel
theorem dX2_led_58 : decode cX2_led 58 = .ok (.iconst 1, 1) := by decide +kernel
theorem dX2_led_59 : decode cX2_led 59 = .ok (.iand, 1) := by decide +kernel
theorem dX2_led_60 : decode cX2_led 60 = .ok (.istore 5, 2) := by decide +kernel
theorem dX2_led_62 : decode cX2_led 62 = .ok (.iconst 2, 1) := by decide +kernel
theorem dX2_led_63 : decode cX2_led 63 = .ok (.iload 4, 2) := by decide +kernel
theorem dX2_led_65 : decode cX2_led 65 = .ok (.imul, 1) := by decide +kernel
theorem dX2_led_66 : decode cX2_led 66 = .ok (.iload 5, 2) := by decide +kernel
theorem dX2_led_68 : decode cX2_led 68 = .ok (.iadd, 1) := by decide +kernel
theorem dX2_led_69 : decode cX2_led 69 = .ok (.istore 4, 2) := by decide +kernel
theorem dX2_led_71 : decode cX2_led 71 = .ok (.iinc 6 1, 3) := by decide +kernel
theorem dX2_led_74 : decode cX2_led 74 = .ok (.goto (-47), 3) := by decide +kernel
theorem dX2_led_77 : decode cX2_led 77 = .ok (.iload 5, 2) := by decide +kernel
theorem dX2_led_79 : decode cX2_led 79 = .ok (.ireturn, 1) := by decide +kernel
theorem dX2_answer_0 : decode cX2_answer 0 = .ok (.aload_n 0, 1) := by decide +kernel
theorem dX2_answer_1 : decode cX2_answer 1 = .ok (.iload_n 1, 1) := by decide +kernel
theorem dX2_answer_2 : decode cX2_answer 2 = .ok (.iconst 1, 1) := by decide +kernel
theorem dX2_answer_3 : decode cX2_answer 3 = .ok (.iload_n 2, 1) := by decide +kernel
theorem dX2_answer_4 : decode cX2_answer 4 = .ok (.invokevirtual 86, 3) := by decide +kernel
theorem dX2_answer_7 : decode cX2_answer 7 = .ok (.ireturn, 1) := by decide +kernel
theorem dX2_idle_0 : decode cX2_idle 0 = .ok (.aload_n 0, 1) := by decide +kernel
theorem dX2_idle_1 : decode cX2_idle 1 = .ok (.iload_n 1, 1) := by decide +kernel
theorem dX2_idle_2 : decode cX2_idle 2 = .ok (.invokevirtual 47, 3) := by decide +kernel
theorem dX2_idle_5 : decode cX2_idle 5 = .ok (.ifCond .eq 5, 3) := by decide +kernel
theorem dX2_idle_8 : decode cX2_idle 8 = .ok (.iconst 0, 1) := by decide +kernel
theorem dX2_idle_9 : decode cX2_idle 9 = .ok (.ireturn, 1) := by decide +kernel
theorem dX2_idle_10 : decode cX2_idle 10 = .ok (.aload_n 0, 1) := by decide +kernel
theorem dX2_idle_11 : decode cX2_idle 11 = .ok (.invokevirtual 79, 3) := by decide +kernel
theorem dX2_idle_14 : decode cX2_idle 14 = .ok (.aload_n 0, 1) := by decide +kernel
theorem dX2_idle_15 : decode cX2_idle 15 = .ok (.getfield 20, 3) := by decide +kernel
theorem dX2_idle_18 : decode cX2_idle 18 = .ok (.iconst 1, 1) := by decide +kernel
theorem dX2_idle_19 : decode cX2_idle 19 = .ok (.baload, 1) := by decide +kernel
theorem dX2_idle_20 : decode cX2_idle 20 = .ok (.istore_n 2, 1) := by decide +kernel
theorem dX2_idle_21 : decode cX2_idle 21 = .ok (.aload_n 0, 1) := by decide +kernel
theorem dX2_idle_22 : decode cX2_idle 22 = .ok (.iconst 0, 1) := by decide +kernel
theorem dX2_idle_23 : decode cX2_idle 23 = .ok (.putfield 43, 3) := by decide +kernel
theorem dX2_idle_26 : decode cX2_idle 26 = .ok (.aload_n 0, 1) := by decide +kernel
theorem dX2_idle_27 : decode cX2_idle 27 = .ok (.iload_n 1, 1) := by decide +kernel
theorem dX2_idle_28 : decode cX2_idle 28 = .ok (.putfield 16, 3) := by decide +kernel
theorem dX2_idle_31 : decode cX2_idle 31 = .ok (.aload_n 0, 1) := by decide +kernel
theorem dX2_idle_32 : decode cX2_idle 32 = .ok (.iconst 0, 1) := by decide +kernel
theorem dX2_idle_33 : decode cX2_idle 33 = .ok (.putfield 50, 3) := by decide +kernel
theorem dX2_idle_36 : decode cX2_idle 36 = .ok (.aload_n 0, 1) := by decide +kernel
theorem dX2_idle_37 : decode cX2_idle 37 = .ok (.invokevirtual 73, 3) := by decide +kernel
theorem dX2_idle_40 : decode cX2_idle 40 = .ok (.aload_n 0, 1) := by decide +kernel
theorem dX2_idle_41 : decode cX2_idle 41 = .ok (.getfield 20, 3) := by decide +kernel
theorem dX2_idle_44 : decode cX2_idle 44 = .ok (.iconst 1, 1) := by decide +kernel
theorem dX2_idle_45 : decode cX2_idle 45 = .ok (.baload, 1) := by decide +kernel
theorem dX2_idle_46 : decode cX2_idle 46 = .ok (.iload_n 2, 1) := by decide +kernel
theorem dX2_idle_47 : decode cX2_idle 47 = .ok (.if_icmp .ne 7, 3) := by decide +kernel
theorem dX2_idle_50 : decode cX2_idle 50 = .ok (.iconst 1, 1) := by decide +kernel
theorem dX2_idle_51 : decode cX2_idle 51 = .ok (.goto 4, 3) := by decide +kernel
theorem dX2_idle_54 : decode cX2_idle 54 = .ok (.iconst 0, 1) := by decide +kernel
theorem dX2_idle_55 : decode cX2_idle 55 = .ok (.ireturn, 1) := by decide +kernel
theorem dX2_harmless_0 : decode cX2_harmless 0 = .ok (.aload_n 0, 1) := by decide +kernel
theorem dX2_harmless_1 : decode cX2_harmless 1 = .ok (.iload_n 1, 1) := by decide +kernel
theorem dX2_harmless_2 : decode cX2_harmless 2 = .ok (.invokevirtual 36, 3) := by decide +kernel
theorem dX2_harmless_5 : decode cX2_harmless 5 = .ok (.ifCond .ne 11, 3) := by decide +kernel
theorem dX2_harmless_8 : decode cX2_harmless 8 = .ok (.aload_n 0, 1) := by decide +kernel
theorem dX2_harmless_9 : decode cX2_harmless 9 = .ok (.iload_n 2, 1) := by decide +kernel
theorem dX2_harmless_10 : decode cX2_harmless 10 = .ok (.invokevirtual 36, 3) := by decide +kernel
theorem dX2_harmless_13 : decode cX2_harmless 13 = .ok (.ifCond .eq 5, 3) := by decide +kernel
theorem dX2_harmless_16 : decode cX2_harmless 16 = .ok (.iconst 0, 1) := by decide +kernel
theorem dX2_harmless_17 : decode cX2_harmless 17 = .ok (.ireturn, 1) := by decide +kernel
theorem dX2_harmless_18 : decode cX2_harmless 18 = .ok (.aload_n 0, 1) := by decide +kernel
theorem dX2_harmless_19 : decode cX2_harmless 19 = .ok (.invokevirtual 79, 3) := by decide +kernel
theorem dX2_harmless_22 : decode cX2_harmless 22 = .ok (.aload_n 0, 1) := by decide +kernel
theorem dX2_harmless_23 : decode cX2_harmless 23 = .ok (.getfield 20, 3) := by decide +kernel
theorem dX2_harmless_26 : decode cX2_harmless 26 = .ok (.iconst 1, 1) := by decide +kernel
theorem dX2_harmless_27 : decode cX2_harmless 27 = .ok (.baload, 1) := by decide +kernel
theorem dX2_harmless_28 : decode cX2_harmless 28 = .ok (.istore_n 3, 1) := by decide +kernel
theorem dX2_harmless_29 : decode cX2_harmless 29 = .ok (.aload_n 0, 1) := by decide +kernel
theorem dX2_harmless_30 : decode cX2_harmless 30 = .ok (.iconst 0, 1) := by decide +kernel
theorem dX2_harmless_31 : decode cX2_harmless 31 = .ok (.putfield 43, 3) := by decide +kernel
theorem dX2_harmless_34 : decode cX2_harmless 34 = .ok (.aload_n 0, 1) := by decide +kernel
theorem dX2_harmless_35 : decode cX2_harmless 35 = .ok (.iconst (-1), 1) := by decide +kernel
theorem dX2_harmless_36 : decode cX2_harmless 36 = .ok (.putfield 16, 3) := by decide +kernel
theorem dX2_harmless_39 : decode cX2_harmless 39 = .ok (.aload_n 0, 1) := by decide +kernel
theorem dX2_harmless_40 : decode cX2_harmless 40 = .ok (.iconst 1, 1) := by decide +kernel
theorem dX2_harmless_41 : decode cX2_harmless 41 = .ok (.putfield 50, 3) := by decide +kernel
theorem dX2_harmless_44 : decode cX2_harmless 44 = .ok (.aload_n 0, 1) := by decide +kernel
theorem dX2_harmless_45 : decode cX2_harmless 45 = .ok (.iload_n 1, 1) := by decide +kernel
theorem dX2_harmless_46 : decode cX2_harmless 46 = .ok (.putfield 53, 3) := by decide +kernel
theorem dX2_harmless_49 : decode cX2_harmless 49 = .ok (.aload_n 0, 1) := by decide +kernel
theorem dX2_harmless_50 : decode cX2_harmless 50 = .ok (.iload_n 2, 1) := by decide +kernel
theorem dX2_harmless_51 : decode cX2_harmless 51 = .ok (.putfield 56, 3) := by decide +kernel
theorem dX2_harmless_54 : decode cX2_harmless 54 = .ok (.aload_n 0, 1) := by decide +kernel
theorem dX2_harmless_55 : decode cX2_harmless 55 = .ok (.invokevirtual 73, 3) := by decide +kernel
theorem dX2_harmless_58 : decode cX2_harmless 58 = .ok (.aload_n 0, 1) := by decide +kernel
theorem dX2_harmless_59 : decode cX2_harmless 59 = .ok (.getfield 20, 3) := by decide +kernel
theorem dX2_harmless_62 : decode cX2_harmless 62 = .ok (.iconst 1, 1) := by decide +kernel
theorem dX2_harmless_63 : decode cX2_harmless 63 = .ok (.baload, 1) := by decide +kernel
theorem dX2_harmless_64 : decode cX2_harmless 64 = .ok (.iload_n 3, 1) := by decide +kernel
theorem dX2_harmless_65 : decode cX2_harmless 65 = .ok (.if_icmp .ne 7, 3) := by decide +kernel
theorem dX2_harmless_68 : decode cX2_harmless 68 = .ok (.iconst 1, 1) := by decide +kernel
theorem dX2_harmless_69 : decode cX2_harmless 69 = .ok (.goto 4, 3) := by decide +kernel
theorem dX2_harmless_72 : decode cX2_harmless 72 = .ok (.iconst 0, 1) := by decide +kernel
theorem dX2_harmless_73 : decode cX2_harmless 73 = .ok (.ireturn, 1) := by decide +kernel
theorem dX2_models_0 : decode cX2_models 0 = .ok (.aload_n 0, 1) := by decide +kernel
theorem dX2_models_1 : decode cX2_models 1 = .ok (.invokevirtual 79, 3) := by decide +kernel
theorem dX2_models_4 : decode cX2_models 4 = .ok (.iconst 0, 1) := by decide +kernel
theorem dX2_models_5 : decode cX2_models 5 = .ok (.istore_n 1, 1) := by decide +kernel
theorem dX2_models_6 : decode cX2_models 6 = .ok (.iconst 1, 1) := by decide +kernel
theorem dX2_models_7 : decode cX2_models 7 = .ok (.aload_n 0, 1) := by decide +kernel
theorem dX2_models_8 : decode cX2_models 8 = .ok (.getfield 30, 3) := by decide +kernel
theorem dX2_models_11 : decode cX2_models 11 = .ok (.ishl, 1) := by decide +kernel
theorem dX2_models_12 : decode cX2_models 12 = .ok (.istore_n 2, 1) := by decide +kernel
theorem dX2_models_13 : decode cX2_models 13 = .ok (.iload_n 2, 1) := by decide +kernel
theorem dX2_models_14 : decode cX2_models 14 = .ok (.iconst 2, 1) := by decide +kernel
theorem dX2_models_15 : decode cX2_models 15 = .ok (.aload_n 0, 1) := by decide +kernel
theorem dX2_models_16 : decode cX2_models 16 = .ok (.getfield 30, 3) := by decide +kernel
theorem dX2_models_19 : decode cX2_models 19 = .ok (.ishl, 1) := by decide +kernel
theorem dX2_models_20 : decode cX2_models 20 = .ok (.if_icmp .ge 26, 3) := by decide +kernel
theorem dX2_models_23 : decode cX2_models 23 = .ok (.aload_n 0, 1) := by decide +kernel
theorem dX2_models_24 : decode cX2_models 24 = .ok (.getfield 20, 3) := by decide +kernel
theorem dX2_models_27 : decode cX2_models 27 = .ok (.iload_n 2, 1) := by decide +kernel
theorem dX2_models_28 : decode cX2_models 28 = .ok (.baload, 1) := by decide +kernel
theorem dX2_models_29 : decode cX2_models 29 = .ok (.ifCond .eq 9, 3) := by decide +kernel
theorem dX2_models_32 : decode cX2_models 32 = .ok (.iload_n 1, 1) := by decide +kernel
theorem dX2_models_33 : decode cX2_models 33 = .ok (.iconst 1, 1) := by decide +kernel
theorem dX2_models_34 : decode cX2_models 34 = .ok (.iadd, 1) := by decide +kernel
theorem dX2_models_35 : decode cX2_models 35 = .ok (.goto 4, 3) := by decide +kernel
theorem dX2_models_38 : decode cX2_models 38 = .ok (.iload_n 1, 1) := by decide +kernel
theorem dX2_models_39 : decode cX2_models 39 = .ok (.istore_n 1, 1) := by decide +kernel
theorem dX2_models_40 : decode cX2_models 40 = .ok (.iinc 2 1, 3) := by decide +kernel
theorem dX2_models_43 : decode cX2_models 43 = .ok (.goto (-30), 3) := by decide +kernel
theorem dX2_models_46 : decode cX2_models 46 = .ok (.iload_n 1, 1) := by decide +kernel
theorem dX2_models_47 : decode cX2_models 47 = .ok (.ireturn, 1) := by decide +kernel
theorem dX2_claim_0 : decode cX2_claim 0 = .ok (.aload_n 0, 1) := by decide +kernel
theorem dX2_claim_1 : decode cX2_claim 1 = .ok (.iload_n 1, 1) := by decide +kernel
theorem dX2_claim_2 : decode cX2_claim 2 = .ok (.invokevirtual 90, 3) := by decide +kernel
theorem dX2_claim_5 : decode cX2_claim 5 = .ok (.ifCond .eq 5, 3) := by decide +kernel
theorem dX2_claim_8 : decode cX2_claim 8 = .ok (.iconst 0, 1) := by decide +kernel
theorem dX2_claim_9 : decode cX2_claim 9 = .ok (.ireturn, 1) := by decide +kernel
theorem dX2_claim_10 : decode cX2_claim 10 = .ok (.aload_n 0, 1) := by decide +kernel
theorem dX2_claim_11 : decode cX2_claim 11 = .ok (.getfield 27, 3) := by decide +kernel
theorem dX2_claim_14 : decode cX2_claim 14 = .ok (.iload_n 1, 1) := by decide +kernel
theorem dX2_claim_15 : decode cX2_claim 15 = .ok (.iload_n 2, 1) := by decide +kernel
theorem dX2_claim_16 : decode cX2_claim 16 = .ok (.iastore, 1) := by decide +kernel
theorem dX2_claim_17 : decode cX2_claim 17 = .ok (.iconst 1, 1) := by decide +kernel
theorem dX2_claim_18 : decode cX2_claim 18 = .ok (.ireturn, 1) := by decide +kernel
theorem dX2_noEves_0 : decode cX2_noEves 0 = .ok (.iload_n 1, 1) := by decide +kernel
theorem dX2_noEves_1 : decode cX2_noEves 1 = .ok (.ifCond .lt 19, 3) := by decide +kernel
theorem dX2_noEves_4 : decode cX2_noEves 4 = .ok (.iload_n 1, 1) := by decide +kernel
theorem dX2_noEves_5 : decode cX2_noEves 5 = .ok (.aload_n 0, 1) := by decide +kernel
theorem dX2_noEves_6 : decode cX2_noEves 6 = .ok (.getfield 30, 3) := by decide +kernel
theorem dX2_noEves_9 : decode cX2_noEves 9 = .ok (.if_icmp .ge 11, 3) := by decide +kernel
theorem dX2_noEves_12 : decode cX2_noEves 12 = .ok (.aload_n 0, 1) := by decide +kernel
theorem dX2_noEves_13 : decode cX2_noEves 13 = .ok (.iload_n 1, 1) := by decide +kernel
theorem dX2_noEves_14 : decode cX2_noEves 14 = .ok (.invokevirtual 70, 3) := by decide +kernel
theorem dX2_noEves_17 : decode cX2_noEves 17 = .ok (.ifCond .eq 7, 3) := by decide +kernel
theorem dX2_noEves_20 : decode cX2_noEves 20 = .ok (.iconst 1, 1) := by decide +kernel
theorem dX2_noEves_21 : decode cX2_noEves 21 = .ok (.goto 4, 3) := by decide +kernel
theorem dX2_noEves_24 : decode cX2_noEves 24 = .ok (.iconst 0, 1) := by decide +kernel
theorem dX2_noEves_25 : decode cX2_noEves 25 = .ok (.ireturn, 1) := by decide +kernel
theorem dX2_claimed_0 : decode cX2_claimed 0 = .ok (.aload_n 0, 1) := by decide +kernel
theorem dX2_claimed_1 : decode cX2_claimed 1 = .ok (.iload_n 1, 1) := by decide +kernel
theorem dX2_claimed_2 : decode cX2_claimed 2 = .ok (.invokevirtual 90, 3) := by decide +kernel
theorem dX2_claimed_5 : decode cX2_claimed 5 = .ok (.ifCond .ne 18, 3) := by decide +kernel
theorem dX2_claimed_8 : decode cX2_claimed 8 = .ok (.iload_n 2, 1) := by decide +kernel
theorem dX2_claimed_9 : decode cX2_claimed 9 = .ok (.ifCond .lt 14, 3) := by decide +kernel
theorem dX2_claimed_12 : decode cX2_claimed 12 = .ok (.iload_n 2, 1) := by decide +kernel
theorem dX2_claimed_13 : decode cX2_claimed 13 = .ok (.iconst 1, 1) := by decide +kernel
theorem dX2_claimed_14 : decode cX2_claimed 14 = .ok (.aload_n 0, 1) := by decide +kernel
theorem dX2_claimed_15 : decode cX2_claimed 15 = .ok (.iload_n 1, 1) := by decide +kernel
theorem dX2_claimed_16 : decode cX2_claimed 16 = .ok (.invokevirtual 93, 3) := by decide +kernel
theorem dX2_claimed_19 : decode cX2_claimed 19 = .ok (.ishl, 1) := by decide +kernel
theorem dX2_claimed_20 : decode cX2_claimed 20 = .ok (.if_icmp .lt 5, 3) := by decide +kernel
theorem dX2_claimed_23 : decode cX2_claimed 23 = .ok (.iconst 0, 1) := by decide +kernel
end
section
theorem dX2_claimed_24 : decode cX2_claimed 24 = .ok (.ireturn, 1) := by decide +kernel
theorem dX2_claimed_25 : decode cX2_claimed 25 = .ok (.aload_n 0, 1) := by decide +kernel
theorem dX2_claimed_26 : decode cX2_claimed 26 = .ok (.getfield 27, 3) := by decide +kernel
theorem dX2_claimed_29 : decode cX2_claimed 29 = .ok (.iload_n 1, 1) := by decide +kernel
theorem dX2_claimed_30 : decode cX2_claimed 30 = .ok (.iaload, 1) := by decide +kernel
theorem dX2_claimed_31 : decode cX2_claimed 31 = .ok (.iload_n 2, 1) := by decide +kernel
theorem dX2_claimed_32 : decode cX2_claimed 32 = .ok (.ishr, 1) := by decide +kernel
theorem dX2_claimed_33 : decode cX2_claimed 33 = .ok (.iconst 1, 1) := by decide +kernel
theorem dX2_claimed_34 : decode cX2_claimed 34 = .ok (.iand, 1) := by decide +kernel
theorem dX2_claimed_35 : decode cX2_claimed 35 = .ok (.ireturn, 1) := by decide +kernel
theorem dX2_before_0 : decode cX2_before 0 = .ok (.iconst 0, 1) := by decide +kernel
theorem dX2_before_1 : decode cX2_before 1 = .ok (.istore_n 2, 1) := by decide +kernel
theorem dX2_before_2 : decode cX2_before 2 = .ok (.iconst 0, 1) := by decide +kernel
theorem dX2_before_3 : decode cX2_before 3 = .ok (.istore_n 3, 1) := by decide +kernel
theorem dX2_before_4 : decode cX2_before 4 = .ok (.iload_n 3, 1) := by decide +kernel
theorem dX2_before_5 : decode cX2_before 5 = .ok (.iload_n 1, 1) := by decide +kernel
theorem dX2_before_6 : decode cX2_before 6 = .ok (.if_icmp .ge 25, 3) := by decide +kernel
theorem dX2_before_9 : decode cX2_before 9 = .ok (.aload_n 0, 1) := by decide +kernel
theorem dX2_before_10 : decode cX2_before 10 = .ok (.iload_n 3, 1) := by decide +kernel
theorem dX2_before_11 : decode cX2_before 11 = .ok (.invokevirtual 70, 3) := by decide +kernel
theorem dX2_before_14 : decode cX2_before 14 = .ok (.ifCond .eq 9, 3) := by decide +kernel
theorem dX2_before_17 : decode cX2_before 17 = .ok (.iload_n 2, 1) := by decide +kernel
theorem dX2_before_18 : decode cX2_before 18 = .ok (.iconst 1, 1) := by decide +kernel
theorem dX2_before_19 : decode cX2_before 19 = .ok (.iadd, 1) := by decide +kernel
theorem dX2_before_20 : decode cX2_before 20 = .ok (.goto 4, 3) := by decide +kernel
theorem dX2_before_23 : decode cX2_before 23 = .ok (.iload_n 2, 1) := by decide +kernel
theorem dX2_before_24 : decode cX2_before 24 = .ok (.istore_n 2, 1) := by decide +kernel
theorem dX2_before_25 : decode cX2_before 25 = .ok (.iinc 3 1, 3) := by decide +kernel
theorem dX2_before_28 : decode cX2_before 28 = .ok (.goto (-24), 3) := by decide +kernel
theorem dX2_before_31 : decode cX2_before 31 = .ok (.iload_n 2, 1) := by decide +kernel
theorem dX2_before_32 : decode cX2_before 32 = .ok (.ireturn, 1) := by decide +kernel
theorem dX2_gap_0 : decode cX2_gap 0 = .ok (.aload_n 0, 1) := by decide +kernel
theorem dX2_gap_1 : decode cX2_gap 1 = .ok (.invokevirtual 79, 3) := by decide +kernel
theorem dX2_gap_4 : decode cX2_gap 4 = .ok (.iconst 0, 1) := by decide +kernel
theorem dX2_gap_5 : decode cX2_gap 5 = .ok (.istore_n 1, 1) := by decide +kernel
theorem dX2_gap_6 : decode cX2_gap 6 = .ok (.iload_n 1, 1) := by decide +kernel
theorem dX2_gap_7 : decode cX2_gap 7 = .ok (.iconst 1, 1) := by decide +kernel
theorem dX2_gap_8 : decode cX2_gap 8 = .ok (.aload_n 0, 1) := by decide +kernel
theorem dX2_gap_9 : decode cX2_gap 9 = .ok (.aload_n 0, 1) := by decide +kernel
theorem dX2_gap_10 : decode cX2_gap 10 = .ok (.getfield 30, 3) := by decide +kernel
theorem dX2_gap_13 : decode cX2_gap 13 = .ok (.invokevirtual 93, 3) := by decide +kernel
theorem dX2_gap_16 : decode cX2_gap 16 = .ok (.ishl, 1) := by decide +kernel
theorem dX2_gap_17 : decode cX2_gap 17 = .ok (.if_icmp .ge 24, 3) := by decide +kernel
theorem dX2_gap_20 : decode cX2_gap 20 = .ok (.aload_n 0, 1) := by decide +kernel
theorem dX2_gap_21 : decode cX2_gap 21 = .ok (.getfield 20, 3) := by decide +kernel
theorem dX2_gap_24 : decode cX2_gap 24 = .ok (.aload_n 0, 1) := by decide +kernel
theorem dX2_gap_25 : decode cX2_gap 25 = .ok (.iload_n 1, 1) := by decide +kernel
theorem dX2_gap_26 : decode cX2_gap 26 = .ok (.invokevirtual 96, 3) := by decide +kernel
theorem dX2_gap_29 : decode cX2_gap 29 = .ok (.baload, 1) := by decide +kernel
theorem dX2_gap_30 : decode cX2_gap 30 = .ok (.ifCond .ne 5, 3) := by decide +kernel
theorem dX2_gap_33 : decode cX2_gap 33 = .ok (.iload_n 1, 1) := by decide +kernel
theorem dX2_gap_34 : decode cX2_gap 34 = .ok (.ireturn, 1) := by decide +kernel
theorem dX2_gap_35 : decode cX2_gap 35 = .ok (.iinc 1 1, 3) := by decide +kernel
theorem dX2_gap_38 : decode cX2_gap 38 = .ok (.goto (-32), 3) := by decide +kernel
theorem dX2_gap_41 : decode cX2_gap 41 = .ok (.iconst (-1), 1) := by decide +kernel
theorem dX2_gap_42 : decode cX2_gap 42 = .ok (.ireturn, 1) := by decide +kernel
theorem dX2_reached_0 : decode cX2_reached 0 = .ok (.iconst 1, 1) := by decide +kernel
theorem dX2_reached_1 : decode cX2_reached 1 = .ok (.istore_n 2, 1) := by decide +kernel
theorem dX2_reached_2 : decode cX2_reached 2 = .ok (.iconst 0, 1) := by decide +kernel
theorem dX2_reached_3 : decode cX2_reached 3 = .ok (.istore_n 3, 1) := by decide +kernel
theorem dX2_reached_4 : decode cX2_reached 4 = .ok (.iload_n 3, 1) := by decide +kernel
theorem dX2_reached_5 : decode cX2_reached 5 = .ok (.aload_n 0, 1) := by decide +kernel
theorem dX2_reached_6 : decode cX2_reached 6 = .ok (.getfield 30, 3) := by decide +kernel
theorem dX2_reached_9 : decode cX2_reached 9 = .ok (.if_icmp .ge 62, 3) := by decide +kernel
theorem dX2_reached_12 : decode cX2_reached 12 = .ok (.iload_n 1, 1) := by decide +kernel
theorem dX2_reached_13 : decode cX2_reached 13 = .ok (.iconst 1, 1) := by decide +kernel
theorem dX2_reached_14 : decode cX2_reached 14 = .ok (.aload_n 0, 1) := by decide +kernel
theorem dX2_reached_15 : decode cX2_reached 15 = .ok (.iload_n 3, 1) := by decide +kernel
theorem dX2_reached_16 : decode cX2_reached 16 = .ok (.invokevirtual 93, 3) := by decide +kernel
theorem dX2_reached_19 : decode cX2_reached 19 = .ok (.ishl, 1) := by decide +kernel
theorem dX2_reached_20 : decode cX2_reached 20 = .ok (.iconst 1, 1) := by decide +kernel
theorem dX2_reached_21 : decode cX2_reached 21 = .ok (.isub, 1) := by decide +kernel
theorem dX2_reached_22 : decode cX2_reached 22 = .ok (.iand, 1) := by decide +kernel
theorem dX2_reached_23 : decode cX2_reached 23 = .ok (.istore 4, 2) := by decide +kernel
theorem dX2_reached_25 : decode cX2_reached 25 = .ok (.aload_n 0, 1) := by decide +kernel
theorem dX2_reached_26 : decode cX2_reached 26 = .ok (.iload_n 3, 1) := by decide +kernel
theorem dX2_reached_27 : decode cX2_reached 27 = .ok (.invokevirtual 70, 3) := by decide +kernel
theorem dX2_reached_30 : decode cX2_reached 30 = .ok (.ifCond .eq 15, 3) := by decide +kernel
theorem dX2_reached_33 : decode cX2_reached 33 = .ok (.iload_n 1, 1) := by decide +kernel
theorem dX2_reached_34 : decode cX2_reached 34 = .ok (.aload_n 0, 1) := by decide +kernel
theorem dX2_reached_35 : decode cX2_reached 35 = .ok (.iload_n 3, 1) := by decide +kernel
theorem dX2_reached_36 : decode cX2_reached 36 = .ok (.invokevirtual 93, 3) := by decide +kernel
theorem dX2_reached_39 : decode cX2_reached 39 = .ok (.ishr, 1) := by decide +kernel
theorem dX2_reached_40 : decode cX2_reached 40 = .ok (.iconst 1, 1) := by decide +kernel
theorem dX2_reached_41 : decode cX2_reached 41 = .ok (.iand, 1) := by decide +kernel
theorem dX2_reached_42 : decode cX2_reached 42 = .ok (.goto 14, 3) := by decide +kernel
theorem dX2_reached_45 : decode cX2_reached 45 = .ok (.aload_n 0, 1) := by decide +kernel
theorem dX2_reached_46 : decode cX2_reached 46 = .ok (.getfield 27, 3) := by decide +kernel
theorem dX2_reached_49 : decode cX2_reached 49 = .ok (.iload_n 3, 1) := by decide +kernel
theorem dX2_reached_50 : decode cX2_reached 50 = .ok (.iaload, 1) := by decide +kernel
theorem dX2_reached_51 : decode cX2_reached 51 = .ok (.iload 4, 2) := by decide +kernel
theorem dX2_reached_53 : decode cX2_reached 53 = .ok (.ishr, 1) := by decide +kernel
theorem dX2_reached_54 : decode cX2_reached 54 = .ok (.iconst 1, 1) := by decide +kernel
theorem dX2_reached_55 : decode cX2_reached 55 = .ok (.iand, 1) := by decide +kernel
theorem dX2_reached_56 : decode cX2_reached 56 = .ok (.istore 5, 2) := by decide +kernel
theorem dX2_reached_58 : decode cX2_reached 58 = .ok (.iconst 2, 1) := by decide +kernel
theorem dX2_reached_59 : decode cX2_reached 59 = .ok (.iload_n 2, 1) := by decide +kernel
theorem dX2_reached_60 : decode cX2_reached 60 = .ok (.imul, 1) := by decide +kernel
theorem dX2_reached_61 : decode cX2_reached 61 = .ok (.iload 5, 2) := by decide +kernel
theorem dX2_reached_63 : decode cX2_reached 63 = .ok (.iadd, 1) := by decide +kernel
theorem dX2_reached_64 : decode cX2_reached 64 = .ok (.istore_n 2, 1) := by decide +kernel
theorem dX2_reached_65 : decode cX2_reached 65 = .ok (.iinc 3 1, 3) := by decide +kernel
theorem dX2_reached_68 : decode cX2_reached 68 = .ok (.goto (-64), 3) := by decide +kernel
theorem dX2_reached_71 : decode cX2_reached 71 = .ok (.iload_n 2, 1) := by decide +kernel
theorem dX2_reached_72 : decode cX2_reached 72 = .ok (.ireturn, 1) := by decide +kernel
theorem dX2_learn_0 : decode cX2_learn 0 = .ok (.aload_n 0, 1) := by decide +kernel
theorem dX2_learn_1 : decode cX2_learn 1 = .ok (.invokevirtual 79, 3) := by decide +kernel
theorem dX2_learn_4 : decode cX2_learn 4 = .ok (.iconst 0, 1) := by decide +kernel
theorem dX2_learn_5 : decode cX2_learn 5 = .ok (.istore_n 1, 1) := by decide +kernel
theorem dX2_learn_6 : decode cX2_learn 6 = .ok (.iload_n 1, 1) := by decide +kernel
theorem dX2_learn_7 : decode cX2_learn 7 = .ok (.aload_n 0, 1) := by decide +kernel
theorem dX2_learn_8 : decode cX2_learn 8 = .ok (.getfield 30, 3) := by decide +kernel
theorem dX2_learn_11 : decode cX2_learn 11 = .ok (.if_icmp .ge 16, 3) := by decide +kernel
theorem dX2_learn_14 : decode cX2_learn 14 = .ok (.aload_n 0, 1) := by decide +kernel
theorem dX2_learn_15 : decode cX2_learn 15 = .ok (.getfield 27, 3) := by decide +kernel
theorem dX2_learn_18 : decode cX2_learn 18 = .ok (.iload_n 1, 1) := by decide +kernel
theorem dX2_learn_19 : decode cX2_learn 19 = .ok (.iconst 0, 1) := by decide +kernel
theorem dX2_learn_20 : decode cX2_learn 20 = .ok (.iastore, 1) := by decide +kernel
theorem dX2_learn_21 : decode cX2_learn 21 = .ok (.iinc 1 1, 3) := by decide +kernel
theorem dX2_learn_24 : decode cX2_learn 24 = .ok (.goto (-18), 3) := by decide +kernel
theorem dX2_learn_27 : decode cX2_learn 27 = .ok (.iconst 0, 1) := by decide +kernel
theorem dX2_learn_28 : decode cX2_learn 28 = .ok (.istore_n 1, 1) := by decide +kernel
theorem dX2_learn_29 : decode cX2_learn 29 = .ok (.iload_n 1, 1) := by decide +kernel
theorem dX2_learn_30 : decode cX2_learn 30 = .ok (.aload_n 0, 1) := by decide +kernel
theorem dX2_learn_31 : decode cX2_learn 31 = .ok (.getfield 30, 3) := by decide +kernel
theorem dX2_learn_34 : decode cX2_learn 34 = .ok (.if_icmp .ge 84, 3) := by decide +kernel
theorem dX2_learn_37 : decode cX2_learn 37 = .ok (.iconst 0, 1) := by decide +kernel
theorem dX2_learn_38 : decode cX2_learn 38 = .ok (.istore_n 2, 1) := by decide +kernel
theorem dX2_learn_39 : decode cX2_learn 39 = .ok (.iload_n 2, 1) := by decide +kernel
theorem dX2_learn_40 : decode cX2_learn 40 = .ok (.iconst 1, 1) := by decide +kernel
theorem dX2_learn_41 : decode cX2_learn 41 = .ok (.aload_n 0, 1) := by decide +kernel
theorem dX2_learn_42 : decode cX2_learn 42 = .ok (.iload_n 1, 1) := by decide +kernel
theorem dX2_learn_43 : decode cX2_learn 43 = .ok (.invokevirtual 93, 3) := by decide +kernel
theorem dX2_learn_46 : decode cX2_learn 46 = .ok (.ishl, 1) := by decide +kernel
theorem dX2_learn_47 : decode cX2_learn 47 = .ok (.if_icmp .ge 65, 3) := by decide +kernel
theorem dX2_learn_50 : decode cX2_learn 50 = .ok (.aload_n 0, 1) := by decide +kernel
theorem dX2_learn_51 : decode cX2_learn 51 = .ok (.iload_n 1, 1) := by decide +kernel
theorem dX2_learn_52 : decode cX2_learn 52 = .ok (.invokevirtual 70, 3) := by decide +kernel
theorem dX2_learn_55 : decode cX2_learn 55 = .ok (.ifCond .ne 57, 3) := by decide +kernel
theorem dX2_learn_58 : decode cX2_learn 58 = .ok (.aload_n 0, 1) := by decide +kernel
theorem dX2_learn_59 : decode cX2_learn 59 = .ok (.iload_n 2, 1) := by decide +kernel
theorem dX2_learn_60 : decode cX2_learn 60 = .ok (.invokevirtual 96, 3) := by decide +kernel
theorem dX2_learn_63 : decode cX2_learn 63 = .ok (.aload_n 0, 1) := by decide +kernel
theorem dX2_learn_64 : decode cX2_learn 64 = .ok (.getfield 30, 3) := by decide +kernel
theorem dX2_learn_67 : decode cX2_learn 67 = .ok (.iload_n 1, 1) := by decide +kernel
theorem dX2_learn_68 : decode cX2_learn 68 = .ok (.isub, 1) := by decide +kernel
theorem dX2_learn_69 : decode cX2_learn 69 = .ok (.ishr, 1) := by decide +kernel
theorem dX2_learn_70 : decode cX2_learn 70 = .ok (.istore_n 3, 1) := by decide +kernel
theorem dX2_learn_71 : decode cX2_learn 71 = .ok (.aload_n 0, 1) := by decide +kernel
theorem dX2_learn_72 : decode cX2_learn 72 = .ok (.getfield 27, 3) := by decide +kernel
theorem dX2_learn_75 : decode cX2_learn 75 = .ok (.iload_n 1, 1) := by decide +kernel
theorem dX2_learn_76 : decode cX2_learn 76 = .ok (.aload_n 0, 1) := by decide +kernel
theorem dX2_learn_77 : decode cX2_learn 77 = .ok (.iload_n 3, 1) := by decide +kernel
theorem dX2_learn_78 : decode cX2_learn 78 = .ok (.iload_n 1, 1) := by decide +kernel
theorem dX2_learn_79 : decode cX2_learn 79 = .ok (.invokevirtual 82, 3) := by decide +kernel
theorem dX2_learn_82 : decode cX2_learn 82 = .ok (.iconst 1, 1) := by decide +kernel
theorem dX2_learn_83 : decode cX2_learn 83 = .ok (.if_icmp .ne 16, 3) := by decide +kernel
theorem dX2_learn_86 : decode cX2_learn 86 = .ok (.aload_n 0, 1) := by decide +kernel
theorem dX2_learn_87 : decode cX2_learn 87 = .ok (.getfield 27, 3) := by decide +kernel
theorem dX2_learn_90 : decode cX2_learn 90 = .ok (.iload_n 1, 1) := by decide +kernel
theorem dX2_learn_91 : decode cX2_learn 91 = .ok (.iaload, 1) := by decide +kernel
theorem dX2_learn_92 : decode cX2_learn 92 = .ok (.iconst 1, 1) := by decide +kernel
theorem dX2_learn_93 : decode cX2_learn 93 = .ok (.iload_n 2, 1) := by decide +kernel
theorem dX2_learn_94 : decode cX2_learn 94 = .ok (.ishl, 1) := by decide +kernel
theorem dX2_learn_95 : decode cX2_learn 95 = .ok (.ior, 1) := by decide +kernel
theorem dX2_learn_96 : decode cX2_learn 96 = .ok (.goto 9, 3) := by decide +kernel
theorem dX2_learn_99 : decode cX2_learn 99 = .ok (.aload_n 0, 1) := by decide +kernel
theorem dX2_learn_100 : decode cX2_learn 100 = .ok (.getfield 27, 3) := by decide +kernel
theorem dX2_learn_103 : decode cX2_learn 103 = .ok (.iload_n 1, 1) := by decide +kernel
theorem dX2_learn_104 : decode cX2_learn 104 = .ok (.iaload, 1) := by decide +kernel
theorem dX2_learn_105 : decode cX2_learn 105 = .ok (.iastore, 1) := by decide +kernel
theorem dX2_learn_106 : decode cX2_learn 106 = .ok (.iinc 2 1, 3) := by decide +kernel
theorem dX2_learn_109 : decode cX2_learn 109 = .ok (.goto (-70), 3) := by decide +kernel
theorem dX2_learn_112 : decode cX2_learn 112 = .ok (.iinc 1 1, 3) := by decide +kernel
theorem dX2_learn_115 : decode cX2_learn 115 = .ok (.goto (-86), 3) := by decide +kernel
theorem dX2_learn_118 : decode cX2_learn 118 = .ok (.aload_n 0, 1) := by decide +kernel
theorem dX2_learn_119 : decode cX2_learn 119 = .ok (.invokevirtual 99, 3) := by decide +kernel
theorem dX2_learn_122 : decode cX2_learn 122 = .ok (.ireturn, 1) := by decide +kernel
theorem dL_law_0 : decode code 0 = .ok (.new 7, 3) := by decide +kernel
theorem dL_law_3 : decode code 3 = .ok (.dup, 1) := by decide +kernel
theorem dL_law_4 : decode code 4 = .ok (.aload_n 0, 1) := by decide +kernel
theorem dL_law_5 : decode code 5 = .ok (.iconst 0, 1) := by decide +kernel
theorem dL_law_6 : decode code 6 = .ok (.invokestatic 9, 3) := by decide +kernel
theorem dL_law_9 : decode code 9 = .ok (.aload_n 0, 1) := by decide +kernel
theorem dL_law_10 : decode code 10 = .ok (.iconst 1, 1) := by decide +kernel
theorem dL_law_11 : decode code 11 = .ok (.invokestatic 9, 3) := by decide +kernel
theorem dL_law_14 : decode code 14 = .ok (.invokespecial 15, 3) := by decide +kernel
theorem dL_law_17 : decode code 17 = .ok (.astore_n 1, 1) := by decide +kernel
theorem dL_law_18 : decode code 18 = .ok (.new 18, 3) := by decide +kernel
theorem dL_law_21 : decode code 21 = .ok (.dup, 1) := by decide +kernel
theorem dL_law_22 : decode code 22 = .ok (.aload_n 0, 1) := by decide +kernel
theorem dL_law_23 : decode code 23 = .ok (.iconst 0, 1) := by decide +kernel
theorem dL_law_24 : decode code 24 = .ok (.invokestatic 9, 3) := by decide +kernel
theorem dL_law_27 : decode code 27 = .ok (.aload_n 0, 1) := by decide +kernel
theorem dL_law_28 : decode code 28 = .ok (.iconst 1, 1) := by decide +kernel
theorem dL_law_29 : decode code 29 = .ok (.invokestatic 9, 3) := by decide +kernel
theorem dL_law_32 : decode code 32 = .ok (.invokespecial 20, 3) := by decide +kernel
theorem dL_law_35 : decode code 35 = .ok (.astore_n 2, 1) := by decide +kernel
theorem dL_law_36 : decode code 36 = .ok (.iconst 2, 1) := by decide +kernel
theorem dL_law_37 : decode code 37 = .ok (.istore_n 3, 1) := by decide +kernel
theorem dL_law_38 : decode code 38 = .ok (.iload_n 3, 1) := by decide +kernel
theorem dL_law_39 : decode code 39 = .ok (.aload_n 0, 1) := by decide +kernel
theorem dL_law_40 : decode code 40 = .ok (.arraylength, 1) := by decide +kernel
theorem dL_law_41 : decode code 41 = .ok (.iconst 3, 1) := by decide +kernel
theorem dL_law_42 : decode code 42 = .ok (.isub, 1) := by decide +kernel
theorem dL_law_43 : decode code 43 = .ok (.if_icmp .gt 504, 3) := by decide +kernel
theorem dL_law_46 : decode code 46 = .ok (.aload_n 0, 1) := by decide +kernel
theorem dL_law_47 : decode code 47 = .ok (.iload_n 3, 1) := by decide +kernel
theorem dL_law_48 : decode code 48 = .ok (.iaload, 1) := by decide +kernel
theorem dL_law_49 : decode code 49 = .ok (.bipush 31, 2) := by decide +kernel
theorem dL_law_51 : decode code 51 = .ok (.iand, 1) := by decide +kernel
theorem dL_law_52 : decode code 52 = .ok (.tableswitch 489 0 18 #[92, 105, 118, 151, 174, 187, 210, 223, 236, 249, 262, 295, 328, 351, 384, 397, 430, 443, 456], 92) := by decide +kernel
theorem dL_law_144 : decode code 144 = .ok (.aload_n 1, 1) := by decide +kernel
theorem dL_law_145 : decode code 145 = .ok (.invokevirtual 21, 3) := by decide +kernel
theorem dL_law_148 : decode code 148 = .ok (.aload_n 2, 1) := by decide +kernel
theorem dL_law_149 : decode code 149 = .ok (.invokevirtual 25, 3) := by decide +kernel
theorem dL_law_152 : decode code 152 = .ok (.if_icmp .eq 389, 3) := by decide +kernel
theorem dL_law_155 : decode code 155 = .ok (.iconst 0, 1) := by decide +kernel
theorem dL_law_156 : decode code 156 = .ok (.ireturn, 1) := by decide +kernel
theorem dL_law_157 : decode code 157 = .ok (.aload_n 1, 1) := by decide +kernel
theorem dL_law_158 : decode code 158 = .ok (.invokevirtual 26, 3) := by decide +kernel
theorem dL_law_161 : decode code 161 = .ok (.aload_n 2, 1) := by decide +kernel
theorem dL_law_162 : decode code 162 = .ok (.invokevirtual 29, 3) := by decide +kernel
theorem dL_law_165 : decode code 165 = .ok (.if_icmp .eq 376, 3) := by decide +kernel
theorem dL_law_168 : decode code 168 = .ok (.iconst 0, 1) := by decide +kernel
theorem dL_law_169 : decode code 169 = .ok (.ireturn, 1) := by decide +kernel
theorem dL_law_170 : decode code 170 = .ok (.aload_n 1, 1) := by decide +kernel
theorem dL_law_171 : decode code 171 = .ok (.aload_n 0, 1) := by decide +kernel
theorem dL_law_172 : decode code 172 = .ok (.iload_n 3, 1) := by decide +kernel
theorem dL_law_173 : decode code 173 = .ok (.iconst 1, 1) := by decide +kernel
theorem dL_law_174 : decode code 174 = .ok (.iadd, 1) := by decide +kernel
theorem dL_law_175 : decode code 175 = .ok (.iaload, 1) := by decide +kernel
theorem dL_law_176 : decode code 176 = .ok (.aload_n 0, 1) := by decide +kernel
theorem dL_law_177 : decode code 177 = .ok (.iload_n 3, 1) := by decide +kernel
theorem dL_law_178 : decode code 178 = .ok (.iconst 2, 1) := by decide +kernel
theorem dL_law_179 : decode code 179 = .ok (.iadd, 1) := by decide +kernel
theorem dL_law_180 : decode code 180 = .ok (.iaload, 1) := by decide +kernel
theorem dL_law_181 : decode code 181 = .ok (.invokevirtual 30, 3) := by decide +kernel
theorem dL_law_184 : decode code 184 = .ok (.aload_n 2, 1) := by decide +kernel
theorem dL_law_185 : decode code 185 = .ok (.aload_n 0, 1) := by decide +kernel
theorem dL_law_186 : decode code 186 = .ok (.iload_n 3, 1) := by decide +kernel
theorem dL_law_187 : decode code 187 = .ok (.iconst 1, 1) := by decide +kernel
theorem dL_law_188 : decode code 188 = .ok (.iadd, 1) := by decide +kernel
theorem dL_law_189 : decode code 189 = .ok (.iaload, 1) := by decide +kernel
theorem dL_law_190 : decode code 190 = .ok (.aload_n 0, 1) := by decide +kernel
theorem dL_law_191 : decode code 191 = .ok (.iload_n 3, 1) := by decide +kernel
theorem dL_law_192 : decode code 192 = .ok (.iconst 2, 1) := by decide +kernel
theorem dL_law_193 : decode code 193 = .ok (.iadd, 1) := by decide +kernel
theorem dL_law_194 : decode code 194 = .ok (.iaload, 1) := by decide +kernel
theorem dL_law_195 : decode code 195 = .ok (.invokevirtual 34, 3) := by decide +kernel
theorem dL_law_198 : decode code 198 = .ok (.if_icmp .eq 343, 3) := by decide +kernel
theorem dL_law_201 : decode code 201 = .ok (.iconst 0, 1) := by decide +kernel
theorem dL_law_202 : decode code 202 = .ok (.ireturn, 1) := by decide +kernel
theorem dL_law_203 : decode code 203 = .ok (.aload_n 1, 1) := by decide +kernel
theorem dL_law_204 : decode code 204 = .ok (.aload_n 0, 1) := by decide +kernel
theorem dL_law_205 : decode code 205 = .ok (.iload_n 3, 1) := by decide +kernel
theorem dL_law_206 : decode code 206 = .ok (.iconst 1, 1) := by decide +kernel
theorem dL_law_207 : decode code 207 = .ok (.iadd, 1) := by decide +kernel
theorem dL_law_208 : decode code 208 = .ok (.iaload, 1) := by decide +kernel
theorem dL_law_209 : decode code 209 = .ok (.invokevirtual 35, 3) := by decide +kernel
theorem dL_law_212 : decode code 212 = .ok (.aload_n 2, 1) := by decide +kernel
theorem dL_law_213 : decode code 213 = .ok (.aload_n 0, 1) := by decide +kernel
theorem dL_law_214 : decode code 214 = .ok (.iload_n 3, 1) := by decide +kernel
theorem dL_law_215 : decode code 215 = .ok (.iconst 1, 1) := by decide +kernel
theorem dL_law_216 : decode code 216 = .ok (.iadd, 1) := by decide +kernel
theorem dL_law_217 : decode code 217 = .ok (.iaload, 1) := by decide +kernel
theorem dL_law_218 : decode code 218 = .ok (.invokevirtual 39, 3) := by decide +kernel
theorem dL_law_221 : decode code 221 = .ok (.if_icmp .eq 320, 3) := by decide +kernel
theorem dL_law_224 : decode code 224 = .ok (.iconst 0, 1) := by decide +kernel
theorem dL_law_225 : decode code 225 = .ok (.ireturn, 1) := by decide +kernel
theorem dL_law_226 : decode code 226 = .ok (.aload_n 1, 1) := by decide +kernel
theorem dL_law_227 : decode code 227 = .ok (.invokevirtual 40, 3) := by decide +kernel
theorem dL_law_230 : decode code 230 = .ok (.aload_n 2, 1) := by decide +kernel
theorem dL_law_231 : decode code 231 = .ok (.invokevirtual 43, 3) := by decide +kernel
theorem dL_law_234 : decode code 234 = .ok (.if_icmp .eq 307, 3) := by decide +kernel
theorem dL_law_237 : decode code 237 = .ok (.iconst 0, 1) := by decide +kernel
theorem dL_law_238 : decode code 238 = .ok (.ireturn, 1) := by decide +kernel
theorem dL_law_239 : decode code 239 = .ok (.aload_n 1, 1) := by decide +kernel
theorem dL_law_240 : decode code 240 = .ok (.aload_n 0, 1) := by decide +kernel
theorem dL_law_241 : decode code 241 = .ok (.iload_n 3, 1) := by decide +kernel
theorem dL_law_242 : decode code 242 = .ok (.iconst 1, 1) := by decide +kernel
theorem dL_law_243 : decode code 243 = .ok (.iadd, 1) := by decide +kernel
theorem dL_law_244 : decode code 244 = .ok (.iaload, 1) := by decide +kernel
theorem dL_law_245 : decode code 245 = .ok (.invokevirtual 44, 3) := by decide +kernel
theorem dL_law_248 : decode code 248 = .ok (.aload_n 2, 1) := by decide +kernel
theorem dL_law_249 : decode code 249 = .ok (.aload_n 0, 1) := by decide +kernel
theorem dL_law_250 : decode code 250 = .ok (.iload_n 3, 1) := by decide +kernel
theorem dL_law_251 : decode code 251 = .ok (.iconst 1, 1) := by decide +kernel
theorem dL_law_252 : decode code 252 = .ok (.iadd, 1) := by decide +kernel
theorem dL_law_253 : decode code 253 = .ok (.iaload, 1) := by decide +kernel
theorem dL_law_254 : decode code 254 = .ok (.invokevirtual 48, 3) := by decide +kernel
theorem dL_law_257 : decode code 257 = .ok (.if_icmp .eq 284, 3) := by decide +kernel
theorem dL_law_260 : decode code 260 = .ok (.iconst 0, 1) := by decide +kernel
theorem dL_law_261 : decode code 261 = .ok (.ireturn, 1) := by decide +kernel
theorem dL_law_262 : decode code 262 = .ok (.aload_n 1, 1) := by decide +kernel
theorem dL_law_263 : decode code 263 = .ok (.invokevirtual 49, 3) := by decide +kernel
theorem dL_law_266 : decode code 266 = .ok (.aload_n 2, 1) := by decide +kernel
theorem dL_law_267 : decode code 267 = .ok (.invokevirtual 53, 3) := by decide +kernel
theorem dL_law_270 : decode code 270 = .ok (.if_icmp .eq 271, 3) := by decide +kernel
theorem dL_law_273 : decode code 273 = .ok (.iconst 0, 1) := by decide +kernel
theorem dL_law_274 : decode code 274 = .ok (.ireturn, 1) := by decide +kernel
theorem dL_law_275 : decode code 275 = .ok (.aload_n 1, 1) := by decide +kernel
theorem dL_law_276 : decode code 276 = .ok (.invokevirtual 54, 3) := by decide +kernel
theorem dL_law_279 : decode code 279 = .ok (.aload_n 2, 1) := by decide +kernel
theorem dL_law_280 : decode code 280 = .ok (.invokevirtual 57, 3) := by decide +kernel
theorem dL_law_283 : decode code 283 = .ok (.if_icmp .eq 258, 3) := by decide +kernel
theorem dL_law_286 : decode code 286 = .ok (.iconst 0, 1) := by decide +kernel
theorem dL_law_287 : decode code 287 = .ok (.ireturn, 1) := by decide +kernel
theorem dL_law_288 : decode code 288 = .ok (.aload_n 1, 1) := by decide +kernel
theorem dL_law_289 : decode code 289 = .ok (.invokevirtual 58, 3) := by decide +kernel
theorem dL_law_292 : decode code 292 = .ok (.aload_n 2, 1) := by decide +kernel
theorem dL_law_293 : decode code 293 = .ok (.invokevirtual 61, 3) := by decide +kernel
theorem dL_law_296 : decode code 296 = .ok (.if_icmp .eq 245, 3) := by decide +kernel
theorem dL_law_299 : decode code 299 = .ok (.iconst 0, 1) := by decide +kernel
theorem dL_law_300 : decode code 300 = .ok (.ireturn, 1) := by decide +kernel
theorem dL_law_301 : decode code 301 = .ok (.aload_n 1, 1) := by decide +kernel
theorem dL_law_302 : decode code 302 = .ok (.invokevirtual 62, 3) := by decide +kernel
theorem dL_law_305 : decode code 305 = .ok (.aload_n 2, 1) := by decide +kernel
theorem dL_law_306 : decode code 306 = .ok (.invokevirtual 65, 3) := by decide +kernel
theorem dL_law_309 : decode code 309 = .ok (.if_icmp .eq 232, 3) := by decide +kernel
theorem dL_law_312 : decode code 312 = .ok (.iconst 0, 1) := by decide +kernel
theorem dL_law_313 : decode code 313 = .ok (.ireturn, 1) := by decide +kernel
theorem dL_law_314 : decode code 314 = .ok (.aload_n 1, 1) := by decide +kernel
theorem dL_law_315 : decode code 315 = .ok (.aload_n 0, 1) := by decide +kernel
theorem dL_law_316 : decode code 316 = .ok (.iload_n 3, 1) := by decide +kernel
theorem dL_law_317 : decode code 317 = .ok (.iconst 1, 1) := by decide +kernel
theorem dL_law_318 : decode code 318 = .ok (.iadd, 1) := by decide +kernel
theorem dL_law_319 : decode code 319 = .ok (.iaload, 1) := by decide +kernel
theorem dL_law_320 : decode code 320 = .ok (.aload_n 0, 1) := by decide +kernel
theorem dL_law_321 : decode code 321 = .ok (.iload_n 3, 1) := by decide +kernel
theorem dL_law_322 : decode code 322 = .ok (.iconst 2, 1) := by decide +kernel
theorem dL_law_323 : decode code 323 = .ok (.iadd, 1) := by decide +kernel
theorem dL_law_324 : decode code 324 = .ok (.iaload, 1) := by decide +kernel
theorem dL_law_325 : decode code 325 = .ok (.invokevirtual 66, 3) := by decide +kernel
theorem dL_law_328 : decode code 328 = .ok (.aload_n 2, 1) := by decide +kernel
theorem dL_law_329 : decode code 329 = .ok (.aload_n 0, 1) := by decide +kernel
theorem dL_law_330 : decode code 330 = .ok (.iload_n 3, 1) := by decide +kernel
theorem dL_law_331 : decode code 331 = .ok (.iconst 1, 1) := by decide +kernel
theorem dL_law_332 : decode code 332 = .ok (.iadd, 1) := by decide +kernel
theorem dL_law_333 : decode code 333 = .ok (.iaload, 1) := by decide +kernel
theorem dL_law_334 : decode code 334 = .ok (.aload_n 0, 1) := by decide +kernel
theorem dL_law_335 : decode code 335 = .ok (.iload_n 3, 1) := by decide +kernel
theorem dL_law_336 : decode code 336 = .ok (.iconst 2, 1) := by decide +kernel
theorem dL_law_337 : decode code 337 = .ok (.iadd, 1) := by decide +kernel
theorem dL_law_338 : decode code 338 = .ok (.iaload, 1) := by decide +kernel
theorem dL_law_339 : decode code 339 = .ok (.invokevirtual 69, 3) := by decide +kernel
theorem dL_law_342 : decode code 342 = .ok (.if_icmp .eq 199, 3) := by decide +kernel
theorem dL_law_345 : decode code 345 = .ok (.iconst 0, 1) := by decide +kernel
theorem dL_law_346 : decode code 346 = .ok (.ireturn, 1) := by decide +kernel
theorem dL_law_347 : decode code 347 = .ok (.aload_n 1, 1) := by decide +kernel
theorem dL_law_348 : decode code 348 = .ok (.aload_n 0, 1) := by decide +kernel
theorem dL_law_349 : decode code 349 = .ok (.iload_n 3, 1) := by decide +kernel
theorem dL_law_350 : decode code 350 = .ok (.iconst 1, 1) := by decide +kernel
theorem dL_law_351 : decode code 351 = .ok (.iadd, 1) := by decide +kernel
theorem dL_law_352 : decode code 352 = .ok (.iaload, 1) := by decide +kernel
theorem dL_law_353 : decode code 353 = .ok (.aload_n 0, 1) := by decide +kernel
theorem dL_law_354 : decode code 354 = .ok (.iload_n 3, 1) := by decide +kernel
theorem dL_law_355 : decode code 355 = .ok (.iconst 2, 1) := by decide +kernel
theorem dL_law_356 : decode code 356 = .ok (.iadd, 1) := by decide +kernel
theorem dL_law_357 : decode code 357 = .ok (.iaload, 1) := by decide +kernel
theorem dL_law_358 : decode code 358 = .ok (.invokevirtual 70, 3) := by decide +kernel
theorem dL_law_361 : decode code 361 = .ok (.aload_n 2, 1) := by decide +kernel
theorem dL_law_362 : decode code 362 = .ok (.aload_n 0, 1) := by decide +kernel
theorem dL_law_363 : decode code 363 = .ok (.iload_n 3, 1) := by decide +kernel
theorem dL_law_364 : decode code 364 = .ok (.iconst 1, 1) := by decide +kernel
theorem dL_law_365 : decode code 365 = .ok (.iadd, 1) := by decide +kernel
theorem dL_law_366 : decode code 366 = .ok (.iaload, 1) := by decide +kernel
theorem dL_law_367 : decode code 367 = .ok (.aload_n 0, 1) := by decide +kernel
theorem dL_law_368 : decode code 368 = .ok (.iload_n 3, 1) := by decide +kernel
theorem dL_law_369 : decode code 369 = .ok (.iconst 2, 1) := by decide +kernel
theorem dL_law_370 : decode code 370 = .ok (.iadd, 1) := by decide +kernel
theorem dL_law_371 : decode code 371 = .ok (.iaload, 1) := by decide +kernel
theorem dL_law_372 : decode code 372 = .ok (.invokevirtual 73, 3) := by decide +kernel
theorem dL_law_375 : decode code 375 = .ok (.if_icmp .eq 166, 3) := by decide +kernel
theorem dL_law_378 : decode code 378 = .ok (.iconst 0, 1) := by decide +kernel
theorem dL_law_379 : decode code 379 = .ok (.ireturn, 1) := by decide +kernel
theorem dL_law_380 : decode code 380 = .ok (.aload_n 1, 1) := by decide +kernel
theorem dL_law_381 : decode code 381 = .ok (.aload_n 0, 1) := by decide +kernel
theorem dL_law_382 : decode code 382 = .ok (.iload_n 3, 1) := by decide +kernel
theorem dL_law_383 : decode code 383 = .ok (.iconst 1, 1) := by decide +kernel
theorem dL_law_384 : decode code 384 = .ok (.iadd, 1) := by decide +kernel
theorem dL_law_385 : decode code 385 = .ok (.iaload, 1) := by decide +kernel
theorem dL_law_386 : decode code 386 = .ok (.invokevirtual 74, 3) := by decide +kernel
theorem dL_law_389 : decode code 389 = .ok (.aload_n 2, 1) := by decide +kernel
theorem dL_law_390 : decode code 390 = .ok (.aload_n 0, 1) := by decide +kernel
theorem dL_law_391 : decode code 391 = .ok (.iload_n 3, 1) := by decide +kernel
theorem dL_law_392 : decode code 392 = .ok (.iconst 1, 1) := by decide +kernel
theorem dL_law_393 : decode code 393 = .ok (.iadd, 1) := by decide +kernel
theorem dL_law_394 : decode code 394 = .ok (.iaload, 1) := by decide +kernel
theorem dL_law_395 : decode code 395 = .ok (.invokevirtual 77, 3) := by decide +kernel
theorem dL_law_398 : decode code 398 = .ok (.if_icmp .eq 143, 3) := by decide +kernel
theorem dL_law_401 : decode code 401 = .ok (.iconst 0, 1) := by decide +kernel
theorem dL_law_402 : decode code 402 = .ok (.ireturn, 1) := by decide +kernel
theorem dL_law_403 : decode code 403 = .ok (.aload_n 1, 1) := by decide +kernel
theorem dL_law_404 : decode code 404 = .ok (.aload_n 0, 1) := by decide +kernel
theorem dL_law_405 : decode code 405 = .ok (.iload_n 3, 1) := by decide +kernel
theorem dL_law_406 : decode code 406 = .ok (.iconst 1, 1) := by decide +kernel
theorem dL_law_407 : decode code 407 = .ok (.iadd, 1) := by decide +kernel
theorem dL_law_408 : decode code 408 = .ok (.iaload, 1) := by decide +kernel
theorem dL_law_409 : decode code 409 = .ok (.aload_n 0, 1) := by decide +kernel
theorem dL_law_410 : decode code 410 = .ok (.iload_n 3, 1) := by decide +kernel
theorem dL_law_411 : decode code 411 = .ok (.iconst 2, 1) := by decide +kernel
theorem dL_law_412 : decode code 412 = .ok (.iadd, 1) := by decide +kernel
theorem dL_law_413 : decode code 413 = .ok (.iaload, 1) := by decide +kernel
theorem dL_law_414 : decode code 414 = .ok (.invokevirtual 78, 3) := by decide +kernel
theorem dL_law_417 : decode code 417 = .ok (.aload_n 2, 1) := by decide +kernel
theorem dL_law_418 : decode code 418 = .ok (.aload_n 0, 1) := by decide +kernel
theorem dL_law_419 : decode code 419 = .ok (.iload_n 3, 1) := by decide +kernel
theorem dL_law_420 : decode code 420 = .ok (.iconst 1, 1) := by decide +kernel
theorem dL_law_421 : decode code 421 = .ok (.iadd, 1) := by decide +kernel
theorem dL_law_422 : decode code 422 = .ok (.iaload, 1) := by decide +kernel
theorem dL_law_423 : decode code 423 = .ok (.aload_n 0, 1) := by decide +kernel
theorem dL_law_424 : decode code 424 = .ok (.iload_n 3, 1) := by decide +kernel
theorem dL_law_425 : decode code 425 = .ok (.iconst 2, 1) := by decide +kernel
theorem dL_law_426 : decode code 426 = .ok (.iadd, 1) := by decide +kernel
theorem dL_law_427 : decode code 427 = .ok (.iaload, 1) := by decide +kernel
theorem dL_law_428 : decode code 428 = .ok (.invokevirtual 82, 3) := by decide +kernel
theorem dL_law_431 : decode code 431 = .ok (.if_icmp .eq 110, 3) := by decide +kernel
theorem dL_law_434 : decode code 434 = .ok (.iconst 0, 1) := by decide +kernel
theorem dL_law_435 : decode code 435 = .ok (.ireturn, 1) := by decide +kernel
theorem dL_law_436 : decode code 436 = .ok (.aload_n 1, 1) := by decide +kernel
theorem dL_law_437 : decode code 437 = .ok (.invokevirtual 83, 3) := by decide +kernel
theorem dL_law_440 : decode code 440 = .ok (.aload_n 2, 1) := by decide +kernel
theorem dL_law_441 : decode code 441 = .ok (.invokevirtual 86, 3) := by decide +kernel
theorem dL_law_444 : decode code 444 = .ok (.if_icmp .eq 97, 3) := by decide +kernel
theorem dL_law_447 : decode code 447 = .ok (.iconst 0, 1) := by decide +kernel
theorem dL_law_448 : decode code 448 = .ok (.ireturn, 1) := by decide +kernel
theorem dL_law_449 : decode code 449 = .ok (.aload_n 1, 1) := by decide +kernel
theorem dL_law_450 : decode code 450 = .ok (.aload_n 0, 1) := by decide +kernel
theorem dL_law_451 : decode code 451 = .ok (.iload_n 3, 1) := by decide +kernel
theorem dL_law_452 : decode code 452 = .ok (.iconst 1, 1) := by decide +kernel
theorem dL_law_453 : decode code 453 = .ok (.iadd, 1) := by decide +kernel
theorem dL_law_454 : decode code 454 = .ok (.iaload, 1) := by decide +kernel
theorem dL_law_455 : decode code 455 = .ok (.aload_n 0, 1) := by decide +kernel
theorem dL_law_456 : decode code 456 = .ok (.iload_n 3, 1) := by decide +kernel
theorem dL_law_457 : decode code 457 = .ok (.iconst 2, 1) := by decide +kernel
theorem dL_law_458 : decode code 458 = .ok (.iadd, 1) := by decide +kernel
theorem dL_law_459 : decode code 459 = .ok (.iaload, 1) := by decide +kernel
theorem dL_law_460 : decode code 460 = .ok (.invokevirtual 87, 3) := by decide +kernel
theorem dL_law_463 : decode code 463 = .ok (.aload_n 2, 1) := by decide +kernel
theorem dL_law_464 : decode code 464 = .ok (.aload_n 0, 1) := by decide +kernel
theorem dL_law_465 : decode code 465 = .ok (.iload_n 3, 1) := by decide +kernel
theorem dL_law_466 : decode code 466 = .ok (.iconst 1, 1) := by decide +kernel
theorem dL_law_467 : decode code 467 = .ok (.iadd, 1) := by decide +kernel
theorem dL_law_468 : decode code 468 = .ok (.iaload, 1) := by decide +kernel
theorem dL_law_469 : decode code 469 = .ok (.aload_n 0, 1) := by decide +kernel
theorem dL_law_470 : decode code 470 = .ok (.iload_n 3, 1) := by decide +kernel
theorem dL_law_471 : decode code 471 = .ok (.iconst 2, 1) := by decide +kernel
theorem dL_law_472 : decode code 472 = .ok (.iadd, 1) := by decide +kernel
theorem dL_law_473 : decode code 473 = .ok (.iaload, 1) := by decide +kernel
theorem dL_law_474 : decode code 474 = .ok (.invokevirtual 90, 3) := by decide +kernel
theorem dL_law_477 : decode code 477 = .ok (.if_icmp .eq 64, 3) := by decide +kernel
theorem dL_law_480 : decode code 480 = .ok (.iconst 0, 1) := by decide +kernel
theorem dL_law_481 : decode code 481 = .ok (.ireturn, 1) := by decide +kernel
theorem dL_law_482 : decode code 482 = .ok (.aload_n 1, 1) := by decide +kernel
theorem dL_law_483 : decode code 483 = .ok (.invokevirtual 91, 3) := by decide +kernel
theorem dL_law_486 : decode code 486 = .ok (.aload_n 2, 1) := by decide +kernel
theorem dL_law_487 : decode code 487 = .ok (.invokevirtual 94, 3) := by decide +kernel
theorem dL_law_490 : decode code 490 = .ok (.if_icmp .eq 51, 3) := by decide +kernel
theorem dL_law_493 : decode code 493 = .ok (.iconst 0, 1) := by decide +kernel
theorem dL_law_494 : decode code 494 = .ok (.ireturn, 1) := by decide +kernel
theorem dL_law_495 : decode code 495 = .ok (.aload_n 1, 1) := by decide +kernel
theorem dL_law_496 : decode code 496 = .ok (.invokevirtual 95, 3) := by decide +kernel
theorem dL_law_499 : decode code 499 = .ok (.aload_n 2, 1) := by decide +kernel
theorem dL_law_500 : decode code 500 = .ok (.invokevirtual 98, 3) := by decide +kernel
theorem dL_law_503 : decode code 503 = .ok (.if_icmp .eq 38, 3) := by decide +kernel
theorem dL_law_506 : decode code 506 = .ok (.iconst 0, 1) := by decide +kernel
theorem dL_law_507 : decode code 507 = .ok (.ireturn, 1) := by decide +kernel
theorem dL_law_508 : decode code 508 = .ok (.aload_n 1, 1) := by decide +kernel
theorem dL_law_509 : decode code 509 = .ok (.aload_n 0, 1) := by decide +kernel
theorem dL_law_510 : decode code 510 = .ok (.iload_n 3, 1) := by decide +kernel
theorem dL_law_511 : decode code 511 = .ok (.iconst 1, 1) := by decide +kernel
theorem dL_law_512 : decode code 512 = .ok (.iadd, 1) := by decide +kernel
theorem dL_law_513 : decode code 513 = .ok (.iaload, 1) := by decide +kernel
theorem dL_law_514 : decode code 514 = .ok (.aload_n 0, 1) := by decide +kernel
theorem dL_law_515 : decode code 515 = .ok (.iload_n 3, 1) := by decide +kernel
theorem dL_law_516 : decode code 516 = .ok (.iconst 2, 1) := by decide +kernel
theorem dL_law_517 : decode code 517 = .ok (.iadd, 1) := by decide +kernel
theorem dL_law_518 : decode code 518 = .ok (.iaload, 1) := by decide +kernel
theorem dL_law_519 : decode code 519 = .ok (.invokevirtual 99, 3) := by decide +kernel
theorem dL_law_522 : decode code 522 = .ok (.aload_n 2, 1) := by decide +kernel
theorem dL_law_523 : decode code 523 = .ok (.aload_n 0, 1) := by decide +kernel
theorem dL_law_524 : decode code 524 = .ok (.iload_n 3, 1) := by decide +kernel
theorem dL_law_525 : decode code 525 = .ok (.iconst 1, 1) := by decide +kernel
theorem dL_law_526 : decode code 526 = .ok (.iadd, 1) := by decide +kernel
theorem dL_law_527 : decode code 527 = .ok (.iaload, 1) := by decide +kernel
theorem dL_law_528 : decode code 528 = .ok (.aload_n 0, 1) := by decide +kernel
theorem dL_law_529 : decode code 529 = .ok (.iload_n 3, 1) := by decide +kernel
theorem dL_law_530 : decode code 530 = .ok (.iconst 2, 1) := by decide +kernel
theorem dL_law_531 : decode code 531 = .ok (.iadd, 1) := by decide +kernel
theorem dL_law_532 : decode code 532 = .ok (.iaload, 1) := by decide +kernel
theorem dL_law_533 : decode code 533 = .ok (.invokevirtual 102, 3) := by decide +kernel
theorem dL_law_536 : decode code 536 = .ok (.if_icmp .eq 5, 3) := by decide +kernel
theorem dL_law_539 : decode code 539 = .ok (.iconst 0, 1) := by decide +kernel
theorem dL_law_540 : decode code 540 = .ok (.ireturn, 1) := by decide +kernel
theorem dL_law_541 : decode code 541 = .ok (.iinc 3 3, 3) := by decide +kernel
theorem dL_law_544 : decode code 544 = .ok (.goto (-506), 3) := by decide +kernel
theorem dL_law_547 : decode code 547 = .ok (.iconst 1, 1) := by decide +kernel
theorem dL_law_548 : decode code 548 = .ok (.ireturn, 1) := by decide +kernel
end
section
/-! Contracts of bit and of the class Game. -/
theorem hw_p10 {n : Nat} (h : n ≤ 10) : 2 ^ n ≤ 1024 := Nat.le_trans (Nat.pow_le_pow_right (n := 2) (by decide) h) (by decide)
theorem hw_bt {x y : Bool} (h : x = y) : true = (x == y) := by rw [h]; exact (beq_self_eq_true y).symm
theorem hw_bf {x y : Bool} (h : ¬ x = y) : false = (x == y) := (beq_false_of_ne h).symm
theorem sd_leafs {n a : Nat} {Br : Nat → Nat} {F : Nat → Bool} (hF : ∀ j, j < 2 ^ n → F (2 ^ n + j) = (Br j == 0)) (j : Nat) (h1 : 2 ^ n ≤ j) (h2 : j < 2 * 2 ^ n) : F j = sd_ew n a (fun v => Br v == 0) j := by
  obtain ⟨v, rfl⟩ : ∃ v, j = 2 ^ n + v := ⟨j - 2 ^ n, by omega⟩
  rw [hF v (by omega), sd_ew_at (by omega), sd_E_n]
theorem sd_cn_t {f : Nat → Bool} {i : Nat} (h : f i = true) : sd_cn f (i + 1) = sd_cn f i + 1 := by
  show sd_cn f i + (f i).toNat = _
  rw [h]
  rfl
theorem sd_cn_f {f : Nat → Bool} {i : Nat} (h : f i = false) : sd_cn f (i + 1) = sd_cn f i := by
  show sd_cn f i + (f i).toNat = _
  rw [h]
  rfl
/-- one depth judged, as far as i of its positions -/
def sd_ji (a d : Nat) (G : Nat → Bool) (i : Nat) : Nat → Bool := fun j => if 2 ^ d ≤ j ∧ j < 2 ^ d + i then sd_C (a.testBit d) (G (2 ^ (d + 1) + (j - 2 ^ d))) (G (2 ^ (d + 1) + j)) else G j
theorem sd_ji_s {a d i : Nat} {G : Nat → Bool} (hi : i < 2 ^ d) (j : Nat) : va_up (sd_ji a d G i) (2 ^ d + i) (sd_C (a.testBit d) (sd_ji a d G i (2 ^ (d + 1) + i)) (sd_ji a d G i (2 ^ (d + 1) + (i + 2 ^ d)))) j = sd_ji a d G (i + 1) j := by
  have hp := Nat.two_pow_succ d
  by_cases hj : j = 2 ^ d + i
  · subst hj
    rw [va_up_self]
    have e1 : sd_ji a d G i (2 ^ (d + 1) + i) = G (2 ^ (d + 1) + i) := if_neg (by omega)
    have e2 : sd_ji a d G i (2 ^ (d + 1) + (i + 2 ^ d)) = G (2 ^ (d + 1) + (i + 2 ^ d)) := if_neg (by omega)
    have e3 : sd_ji a d G (i + 1) (2 ^ d + i) = sd_C (a.testBit d) (G (2 ^ (d + 1) + (2 ^ d + i - 2 ^ d))) (G (2 ^ (d + 1) + (2 ^ d + i))) := if_pos (by omega)
    rw [e1, e2, e3, Nat.add_sub_cancel_left, Nat.add_comm i]
  · rw [va_up_ne _ _ hj]
    unfold sd_ji
    by_cases h : 2 ^ d ≤ j ∧ j < 2 ^ d + i
    · rw [if_pos h, if_pos (by omega)]
    · rw [if_neg h, if_neg (by omega)]
/-- judged from depth d + 1 on, and depth d judged: judged from depth d on -/
theorem sd_ji_ok {n a d : Nat} {S G : Nat → Bool} (hd : d < n) (hG : ∀ j, 2 ^ (d + 1) ≤ j → j < 2 * 2 ^ n → G j = sd_ew n a S j) (j : Nat) (h1 : 2 ^ d ≤ j) (h2 : j < 2 * 2 ^ n) : sd_ji a d G (2 ^ d) j = sd_ew n a S j := by
  have hp := Nat.two_pow_succ d
  have hdn : 2 ^ (d + 1) ≤ 2 ^ n := Nat.pow_le_pow_right (by decide) hd
  unfold sd_ji
  by_cases h : j < 2 ^ d + 2 ^ d
  · rw [if_pos ⟨h1, h⟩]
    obtain ⟨v, rfl⟩ : ∃ v, j = 2 ^ d + v := ⟨j - 2 ^ d, by omega⟩
    have hv : v < 2 ^ d := by omega
    rw [Nat.add_sub_cancel_left, hG _ (by omega) (by omega), hG _ (by omega) (by omega), sd_ew_at (by omega), Nat.add_comm (2 ^ d) v, sd_ew_at (by omega), Nat.add_comm v (2 ^ d), sd_ew_at hv, sd_E_s v hd, Nat.add_comm v (2 ^ d)]
  · rw [if_neg (by omega)]
    exact hG j (by omega) h2
theorem sd_no {b q : Nat} {st : Int32} {fl : Bool} (h : (if fl = true then nI b + st else nI b) = nI q) (hb : b < 2 ^ 31) (hq : q < 2 ^ 31) (hf : fl = false) : b = q := by
  subst hf
  exact nI_i (by omega) (by omega) h
theorem sd_yes {b q : Nat} {st : Int32} {fl : Bool} (h : (if fl = true then nI b + st else nI b) = nI q) (hf : fl = true) : nI b + st = nI q := by
  subst hf
  exact h

set_option maxHeartbeats 4000000 in
set_option maxRecDepth 100000 in
/-- bit i of x -/
theorem c_bit (l : Launch) (D : va_G) (cI cZ : ClassId) (x : Int32) (i : Nat) (hi : i < 32) : Met l yX1_bit (kX1_bit :: aW) { frames := 0, cells := 0, slots := 0, locals := 0 } (rPre [.int x, .int (nI i)] D [] [(cI, .int), (cZ, .boolean)]) (QcRead (bI ((uN x).testBit i))) 0 0 (fun _ => False) := by
  refine Met.ofW (cc := cX1_bit) (maxL := 2) (ret := (some .int)) (by decide) rfl ?_
  intro p e s m args below meth c s₁ Bo hml hpre
  obtain ⟨rfl, hP, hK, hN⟩ := hpre
  have hx := Bo.exec
  have hb := Bo.bytes
  have hr := Bo.returns
  have hts := atoms_spec (ws := kX1_bit :: aW) Bo.pre
  have ht : ∀ w ∈ aW, w.before _ s = true := fun w h => hts w (List.mem_cons_of_mem _ h)
  have hown : s.vm.findClass RX1 = some m.cls := findClass_of_methodNamed Bo.named
  have hlocks := Bo.notSynchronized
  have hP : va_P D clS [] s.heap := hP
  have hl := lv_entry ([.int x, .int (nI i)]) (n := 2) (Nat.le_of_ble_eq_true rfl)
  rw [lg_entry_eq]
  generalize (lg_sl ([.int x, .int (nI i)]) ++ List.replicate (2 - (lg_sl ([.int x, .int (nI i)])).length) Slot.unset).toArray = ls at hl ⊢
  have hl : lv_has ls 2 [(0, .int x), (1, .int (nI i))] := hl
  refine lv_iload_n hx hb dX1_bit_0 rfl (lv_at hl 0 rfl) ?_
  refine lv_iload_n hx hb dX1_bit_1 rfl (lv_at hl 1 rfl) ?_
  refine lv_iushr hx hb dX1_bit_2 rfl ?_
  refine lv_iconst (v := nI 1) hx hb dX1_bit_3 (by decide) ?_
  refine lv_iand hx hb dX1_bit_4 ?_
  refine lv_nm (y := bI ((uN x).testBit i)) (hw_ubit _ (by omega)) ?_
  exact W.iret hx hb hr (fun t ht2 _ => ⟨hw_ret (rfl), ht2⟩) (fun _ h => by cases h) dX1_bit_5

theorem c_bitn (l : Launch) (D : va_G) (cI cZ : ClassId) (x i : Nat) (hx : x < 2 ^ 32) (hi : i < 32) : Met l yX1_bit (kX1_bit :: aW) { frames := 0, cells := 0, slots := 0, locals := 0 } (rPre [.int (nI x), .int (nI i)] D [] [(cI, .int), (cZ, .boolean)]) (QcRead (bI (x.testBit i))) 0 0 (fun _ => False) := by
  have h := c_bit l D cI cZ (nI x) i hi
  rw [uN_nI hx] at h
  exact h

set_option maxHeartbeats 4000000 in
set_option maxRecDepth 100000 in
theorem c_eveWinsAt (l : Launch) (D : va_G) (cI cZ : ClassId) (og ob oe n a : Nat) (d v : Nat) (Br : Nat → Nat) (f : Nat → Bool) (hn : n ≤ 10) (hd : d ≤ 10) (hj : 2 ^ d + v < 2 * 2 ^ n) : Met l yX0_eveWinsAt (kX0_eveWinsAt :: aW) { frames := 0, cells := 0, slots := 0, locals := 0 } (rPre [.ref og, .int (nI d), .int (nI v)] D [(og, .inr (0, [.int (nI n), .int (nI a), .ref ob, .ref oe])), (ob, .inl (cI, (2 ^ n), .inl (fun j => nI (Br j)))), (oe, .inl (cZ, (2 * 2 ^ n), .inl (fun j => bI (f j))))] [(cI, .int), (cZ, .boolean)]) (QcRead (bI (f (2 ^ d + v)))) 0 0 (fun _ => False) := by
  refine Met.ofW (cc := cX0_eveWinsAt) (maxL := 3) (ret := (some .boolean)) (by decide) rfl ?_
  intro p e s m args below meth c s₁ Bo hml hpre
  obtain ⟨rfl, hP, hK, hN⟩ := hpre
  have hx := Bo.exec
  have hb := Bo.bytes
  have hr := Bo.returns
  have hts := atoms_spec (ws := kX0_eveWinsAt :: aW) Bo.pre
  have ht : ∀ w ∈ aW, w.before _ s = true := fun w h => hts w (List.mem_cons_of_mem _ h)
  have hown : s.vm.findClass RX0 = some m.cls := findClass_of_methodNamed Bo.named
  have hlocks := Bo.notSynchronized
  have hP : va_P D clS [(og, .inr (0, [.int (nI n), .int (nI a), .ref ob, .ref oe])), (ob, .inl (cI, (2 ^ n), .inl (fun j => nI (Br j)))), (oe, .inl (cZ, (2 * 2 ^ n), .inl (fun j => bI (f j))))] s.heap := hP
  have hl := lv_entry ([.ref og, .int (nI d), .int (nI v)]) (n := 3) (Nat.le_of_ble_eq_true rfl)
  rw [lg_entry_eq]
  generalize (lg_sl ([.ref og, .int (nI d), .int (nI v)]) ++ List.replicate (3 - (lg_sl ([.ref og, .int (nI d), .int (nI v)])).length) Slot.unset).toArray = ls at hl ⊢
  have hl : lv_has ls 3 [(0, .ref og), (1, .int (nI d)), (2, .int (nI v))] := hl
  have h2n := hw_p10 hn
  refine lv_aload_n hx hb dX0_eveWinsAt_0 rfl (lv_at hl 0 rfl) ?_
  refine va_get (D := D) (ci := 0) (v := .ref oe) (C := RX0) (T := TX0) (N := 4) hx hb ht inX0 hown hK hP 0 rfl rfl 3 (by decide) (ht _ wf_X0_eveWins) (fun _ h9 => h9) rfl dX0_eveWinsAt_1 ?_
  refine lv_iconst (v := nI 1) hx hb dX0_eveWinsAt_4 (by decide) ?_
  refine lv_iload_n hx hb dX0_eveWinsAt_5 rfl (lv_at hl 1 rfl) ?_
  refine lv_ishl hx hb dX0_eveWinsAt_6 ?_
  refine lv_nm (y := nI (2 ^ d)) (hw_shl1' (by omega)) ?_
  refine lv_iload_n hx hb dX0_eveWinsAt_7 rfl (lv_at hl 2 rfl) ?_
  refine lv_iadd hx hb dX0_eveWinsAt_8 ?_
  refine lv_nm (y := nI ((2 ^ d) + v)) (nI_add _ _) ?_
  refine na_zald (f := f) hx hb hK hP 2 1 rfl rfl (j := (2 ^ d) + v) (by omega) (by omega) dX0_eveWinsAt_9 ?_
  exact W.zret hx hb hr (bI_nar _) (fun t ht2 _ => ⟨hw_ret (rfl), ht2⟩) (fun _ h => by cases h) dX0_eveWinsAt_10

set_option maxHeartbeats 4000000 in
set_option maxRecDepth 100000 in
theorem c_bestMove (l : Launch) (D : va_G) (cI cZ : ClassId) (og ob oe n a : Nat) (d v : Nat) (Br : Nat → Nat) (S : Nat → Bool) (hn : n ≤ 10) (ha : a < 2 ^ n) (hd : d < n) (hv : v < 2 ^ d) : Met l yX0_bestMove (kX0_bestMove :: aW) { frames := 1, cells := 0, slots := 0, locals := 22 } (rPre [.ref og, .int (nI d), .int (nI v)] D [(og, .inr (0, [.int (nI n), .int (nI a), .ref ob, .ref oe])), (ob, .inl (cI, (2 ^ n), .inl (fun j => nI (Br j)))), (oe, .inl (cZ, (2 * 2 ^ n), .inl (fun j => bI ((sd_ew n a S) j))))] [(cI, .int), (cZ, .boolean)]) (QcRead (bI (sd_bm n a S d v))) 0 0 (fun _ => False) := by
  refine Met.ofW (cc := cX0_bestMove) (maxL := 6) (ret := (some .int)) (by decide) rfl ?_
  intro p e s m args below meth c s₁ Bo hml hpre
  obtain ⟨rfl, hP, hK, hN⟩ := hpre
  have hx := Bo.exec
  have hb := Bo.bytes
  have hr := Bo.returns
  have hts := atoms_spec (ws := kX0_bestMove :: aW) Bo.pre
  have ht : ∀ w ∈ aW, w.before _ s = true := fun w h => hts w (List.mem_cons_of_mem _ h)
  have hown : s.vm.findClass RX0 = some m.cls := findClass_of_methodNamed Bo.named
  have hlocks := Bo.notSynchronized
  have hP : va_P D clS [(og, .inr (0, [.int (nI n), .int (nI a), .ref ob, .ref oe])), (ob, .inl (cI, (2 ^ n), .inl (fun j => nI (Br j)))), (oe, .inl (cZ, (2 * 2 ^ n), .inl (fun j => bI ((sd_ew n a S) j))))] s.heap := hP
  have hl := lv_entry ([.ref og, .int (nI d), .int (nI v)]) (n := 6) (Nat.le_of_ble_eq_true rfl)
  rw [lg_entry_eq]
  generalize (lg_sl ([.ref og, .int (nI d), .int (nI v)]) ++ List.replicate (6 - (lg_sl ([.ref og, .int (nI d), .int (nI v)])).length) Slot.unset).toArray = ls at hl ⊢
  have hl : lv_has ls 6 [(0, .ref og), (1, .int (nI d)), (2, .int (nI v))] := hl
  have h2n := hw_p10 hn
  have hp := Nat.two_pow_succ d
  have hdn : 2 ^ (d + 1) ≤ 2 ^ n := Nat.pow_le_pow_right (by decide) hd
  refine lv_aload_n hx hb dX0_bestMove_0 rfl (lv_at hl 0 rfl) ?_
  refine va_get (D := D) (ci := 0) (v := .int (nI a)) (C := RX0) (T := TX0) (N := 4) hx hb ht inX0 hown hK hP 0 rfl rfl 1 (by decide) (ht _ wf_X0_adamSet) (fun _ h9 => h9) rfl dX0_bestMove_1 ?_
  refine lv_iload_n hx hb dX0_bestMove_4 rfl (lv_at hl 1 rfl) ?_
  refine hw_callR (va_runSN (As := [.int (nI a), .int (nI d)]) (rest := []) ⟨hx, hb, hml, hown, ht⟩ (c_bitn l D cI cZ a d (by omega) (by omega)) ⟨va_cnB 2 ht (gA wc_X1_bit) rfl rfl rfl hN (ht _ wn_X1) (by decide +kernel) ⟨Nat.le_of_ble_eq_true rfl, Nat.le_of_ble_eq_true rfl⟩, ht _ wt_X1_bit, trivial⟩ (rPre_S (hP.sub [] rfl) hK hN) rfl rfl hl.1 rfl (lv_room (Nat.le_of_ble_eq_true rfl)) dX0_bestMove_5 ⟨Nat.zero_le _, Nat.zero_le _⟩) ?_
  suffices mk : W p l e (headSpec (kX0_bestMove :: aW) { frames := 1, cells := 0, slots := 0, locals := 22 }).room s m (([.ref og, .int (nI d), .int (nI v)] : List Value).toArray) below meth c s.heap [] 0 0 (MQ below (QcRead (bI (sd_bm n a S d v))) (([.ref og, .int (nI d), .int (nI v)] : List Value).toArray) s 0 0 (fun _ => False)) (F0 m 16 ls [.int (bI (!a.testBit d))]) by
    refine lv_if_ne (tgt := 15) hx hb dX0_bestMove_8 rfl (fun h1 => ?_) (fun h1 => ?_)
    · have h1 : (a.testBit d) = true := bI_ne0 h1
      refine lv_iconst (v := nI 0) hx hb dX0_bestMove_15 (by decide) ?_
      refine lv_nm (y := bI (!a.testBit d)) (hw_0.trans (congrArg bI (show false = (!a.testBit d) by simp [h1]))) ?_
      exact mk
    · have h1 : (a.testBit d) = false := (bI_eq0 _).mp h1
      refine lv_iconst (v := nI 1) hx hb dX0_bestMove_11 (by decide) ?_
      refine lv_goto (tgt := 16) hx hb dX0_bestMove_12 rfl ?_
      refine lv_nm (y := bI (!a.testBit d)) (hw_1.trans (congrArg bI (show true = (!a.testBit d) by simp [h1]))) ?_
      exact mk
  refine lv_istore_n hx hb dX0_bestMove_16 rfl hl (by decide) rfl (fun ls hl => ?_)
  have hl : lv_has ls 6 [(3, .int (bI (!a.testBit d))), (0, .ref og), (1, .int (nI d)), (2, .int (nI v))] := hl
  refine lv_aload_n hx hb dX0_bestMove_17 rfl (lv_at hl 1 rfl) ?_
  refine lv_iload_n hx hb dX0_bestMove_18 rfl (lv_at hl 2 rfl) ?_
  refine lv_iconst (v := nI 1) hx hb dX0_bestMove_19 (by decide) ?_
  refine lv_iadd hx hb dX0_bestMove_20 ?_
  refine lv_nm (y := nI (d + 1)) (nI_add _ _) ?_
  refine lv_iload_n hx hb dX0_bestMove_21 rfl (lv_at hl 3 rfl) ?_
  refine hw_callR (va_runV (b := og) (As := [.int (nI (d + 1)), .int (nI v)]) (rest := []) ⟨hx, hb, hml, hown, ht⟩ (c_eveWinsAt l D cI cZ og ob oe n a (d + 1) v Br (sd_ew n a S) hn (by omega) (by omega)) (cwV 2 ht (gV wm_X0_X0_eveWinsAt wi_X0_eveWinsAt ws_X0_eveWinsAt wn_X0 wc_X0_eveWinsAt) rfl rfl rfl (by decide +kernel) ⟨Nat.le_of_ble_eq_true rfl, Nat.le_of_ble_eq_true rfl⟩) (rPre_V 0 hP hK hN rfl rfl) rfl rfl hl.1 rfl (lv_room (Nat.le_of_ble_eq_true rfl)) dX0_bestMove_22 ⟨Nat.zero_le _, Nat.zero_le _⟩) ?_
  refine lv_nm (y := bI (sd_E n a S (d + 1) v)) (congrArg bI (sd_ew_at (by omega))) ?_
  refine lv_iload_n hx hb dX0_bestMove_25 rfl (lv_at hl 0 rfl) ?_
  suffices mk : W p l e (headSpec (kX0_bestMove :: aW) { frames := 1, cells := 0, slots := 0, locals := 22 }).room s m (([.ref og, .int (nI d), .int (nI v)] : List Value).toArray) below meth c s.heap [] 0 0 (MQ below (QcRead (bI (sd_bm n a S d v))) (([.ref og, .int (nI d), .int (nI v)] : List Value).toArray) s 0 0 (fun _ => False)) (F0 m 34 ls [.int (bI (sd_E n a S (d + 1) v == !a.testBit d))]) by
    refine lv_icmp_ne (tgt := 33) hx hb dX0_bestMove_26 rfl (fun h1 => ?_) (fun h1 => ?_)
    · have h1 : ¬ (sd_E n a S (d + 1) v) = (!a.testBit d) := fun h9 => h1 ((bI_inj _ _).mpr h9)
      refine lv_iconst (v := nI 0) hx hb dX0_bestMove_33 (by decide) ?_
      refine lv_nm (y := bI (sd_E n a S (d + 1) v == !a.testBit d)) (hw_0.trans (congrArg bI (show false = (sd_E n a S (d + 1) v == !a.testBit d) by first | exact hw_bt h1 | exact hw_bf h1))) ?_
      exact mk
    · have h1 : (sd_E n a S (d + 1) v) = (!a.testBit d) := (bI_inj _ _).mp h1
      refine lv_iconst (v := nI 1) hx hb dX0_bestMove_29 (by decide) ?_
      refine lv_goto (tgt := 34) hx hb dX0_bestMove_30 rfl ?_
      refine lv_nm (y := bI (sd_E n a S (d + 1) v == !a.testBit d)) (hw_1.trans (congrArg bI (show true = (sd_E n a S (d + 1) v == !a.testBit d) by first | exact hw_bt h1 | exact hw_bf h1))) ?_
      exact mk
  refine lv_istore hx hb dX0_bestMove_34 hl (by decide) rfl (fun ls hl => ?_)
  have hl : lv_has ls 6 [(4, .int (bI (sd_E n a S (d + 1) v == !a.testBit d))), (3, .int (bI (!a.testBit d))), (0, .ref og), (1, .int (nI d)), (2, .int (nI v))] := hl
  refine lv_aload_n hx hb dX0_bestMove_36 rfl (lv_at hl 2 rfl) ?_
  refine lv_iload_n hx hb dX0_bestMove_37 rfl (lv_at hl 3 rfl) ?_
  refine lv_iconst (v := nI 1) hx hb dX0_bestMove_38 (by decide) ?_
  refine lv_iadd hx hb dX0_bestMove_39 ?_
  refine lv_nm (y := nI (d + 1)) (nI_add _ _) ?_
  refine lv_iload_n hx hb dX0_bestMove_40 rfl (lv_at hl 4 rfl) ?_
  refine lv_iconst (v := nI 1) hx hb dX0_bestMove_41 (by decide) ?_
  refine lv_iload_n hx hb dX0_bestMove_42 rfl (lv_at hl 3 rfl) ?_
  refine lv_ishl hx hb dX0_bestMove_43 ?_
  refine lv_nm (y := nI (2 ^ d)) (hw_shl1' (by omega)) ?_
  refine lv_ior hx hb dX0_bestMove_44 ?_
  refine lv_nm (y := nI (v ||| (2 ^ d))) (hw_or _ _) ?_
  refine lv_nm (y := nI (v + 2 ^ d)) (congrArg nI (Nat.or_two_pow_eq_add_of_lt hv)) ?_
  refine hw_callR (va_runV (b := og) (As := [.int (nI (d + 1)), .int (nI (v + 2 ^ d))]) (rest := []) ⟨hx, hb, hml, hown, ht⟩ (c_eveWinsAt l D cI cZ og ob oe n a (d + 1) (v + 2 ^ d) Br (sd_ew n a S) hn (by omega) (by omega)) (cwV 2 ht (gV wm_X0_X0_eveWinsAt wi_X0_eveWinsAt ws_X0_eveWinsAt wn_X0 wc_X0_eveWinsAt) rfl rfl rfl (by decide +kernel) ⟨Nat.le_of_ble_eq_true rfl, Nat.le_of_ble_eq_true rfl⟩) (rPre_V 0 hP hK hN rfl rfl) rfl rfl hl.1 rfl (lv_room (Nat.le_of_ble_eq_true rfl)) dX0_bestMove_45 ⟨Nat.zero_le _, Nat.zero_le _⟩) ?_
  refine lv_nm (y := bI (sd_E n a S (d + 1) (v + 2 ^ d))) (congrArg bI (sd_ew_at (by omega))) ?_
  refine lv_iload_n hx hb dX0_bestMove_48 rfl (lv_at hl 1 rfl) ?_
  suffices mk : W p l e (headSpec (kX0_bestMove :: aW) { frames := 1, cells := 0, slots := 0, locals := 22 }).room s m (([.ref og, .int (nI d), .int (nI v)] : List Value).toArray) below meth c s.heap [] 0 0 (MQ below (QcRead (bI (sd_bm n a S d v))) (([.ref og, .int (nI d), .int (nI v)] : List Value).toArray) s 0 0 (fun _ => False)) (F0 m 57 ls [.int (bI (sd_E n a S (d + 1) (v + 2 ^ d) == !a.testBit d))]) by
    refine lv_icmp_ne (tgt := 56) hx hb dX0_bestMove_49 rfl (fun h1 => ?_) (fun h1 => ?_)
    · have h1 : ¬ (sd_E n a S (d + 1) (v + 2 ^ d)) = (!a.testBit d) := fun h9 => h1 ((bI_inj _ _).mpr h9)
      refine lv_iconst (v := nI 0) hx hb dX0_bestMove_56 (by decide) ?_
      refine lv_nm (y := bI (sd_E n a S (d + 1) (v + 2 ^ d) == !a.testBit d)) (hw_0.trans (congrArg bI (show false = (sd_E n a S (d + 1) (v + 2 ^ d) == !a.testBit d) by first | exact hw_bt h1 | exact hw_bf h1))) ?_
      exact mk
    · have h1 : (sd_E n a S (d + 1) (v + 2 ^ d)) = (!a.testBit d) := (bI_inj _ _).mp h1
      refine lv_iconst (v := nI 1) hx hb dX0_bestMove_52 (by decide) ?_
      refine lv_goto (tgt := 57) hx hb dX0_bestMove_53 rfl ?_
      refine lv_nm (y := bI (sd_E n a S (d + 1) (v + 2 ^ d) == !a.testBit d)) (hw_1.trans (congrArg bI (show true = (sd_E n a S (d + 1) (v + 2 ^ d) == !a.testBit d) by first | exact hw_bt h1 | exact hw_bf h1))) ?_
      exact mk
  refine lv_istore hx hb dX0_bestMove_57 hl (by decide) rfl (fun ls hl => ?_)
  have hl : lv_has ls 6 [(5, .int (bI (sd_E n a S (d + 1) (v + 2 ^ d) == !a.testBit d))), (4, .int (bI (sd_E n a S (d + 1) v == !a.testBit d))), (3, .int (bI (!a.testBit d))), (0, .ref og), (1, .int (nI d)), (2, .int (nI v))] := hl
  refine lv_iload hx hb dX0_bestMove_59 (lv_at hl 1 rfl) ?_
  suffices mk : W p l e (headSpec (kX0_bestMove :: aW) { frames := 1, cells := 0, slots := 0, locals := 22 }).room s m (([.ref og, .int (nI d), .int (nI v)] : List Value).toArray) below meth c s.heap [] 0 0 (MQ below (QcRead (bI (sd_bm n a S d v))) (([.ref og, .int (nI d), .int (nI v)] : List Value).toArray) s 0 0 (fun _ => False)) (F0 m 74 ls [.int (bI (sd_bm n a S d v))]) by
    refine lv_if_ne (tgt := 73) hx hb dX0_bestMove_61 rfl (fun h1 => ?_) (fun h1 => ?_)
    · have h1 : (sd_E n a S (d + 1) v == !a.testBit d) = true := bI_ne0 h1
      refine lv_iconst (v := nI 0) hx hb dX0_bestMove_73 (by decide) ?_
      refine lv_nm (y := bI (sd_bm n a S d v)) (hw_0.trans (congrArg bI (show false = (sd_bm n a S d v) by unfold sd_bm; rw [h1]; rfl))) ?_
      exact mk
    · have h1 : (sd_E n a S (d + 1) v == !a.testBit d) = false := (bI_eq0 _).mp h1
      refine lv_iload hx hb dX0_bestMove_64 (lv_at hl 0 rfl) ?_
      refine lv_if_eq (tgt := 73) hx hb dX0_bestMove_66 rfl (fun h2 => ?_) (fun h2 => ?_)
      · have h2 : (sd_E n a S (d + 1) (v + 2 ^ d) == !a.testBit d) = false := (bI_eq0 _).mp h2
        refine lv_iconst (v := nI 0) hx hb dX0_bestMove_73 (by decide) ?_
        refine lv_nm (y := bI (sd_bm n a S d v)) (hw_0.trans (congrArg bI (show false = (sd_bm n a S d v) by unfold sd_bm; rw [h1, h2]; rfl))) ?_
        exact mk
      · have h2 : (sd_E n a S (d + 1) (v + 2 ^ d) == !a.testBit d) = true := bI_ne0 h2
        refine lv_iconst (v := nI 1) hx hb dX0_bestMove_69 (by decide) ?_
        refine lv_goto (tgt := 74) hx hb dX0_bestMove_70 rfl ?_
        refine lv_nm (y := bI (sd_bm n a S d v)) (hw_1.trans (congrArg bI (show true = (sd_bm n a S d v) by unfold sd_bm; rw [h1, h2]; rfl))) ?_
        exact mk
  exact W.iret hx hb hr (fun t ht2 _ => ⟨hw_ret (rfl), ht2⟩) (fun _ h => by cases h) dX0_bestMove_74

set_option maxHeartbeats 4000000 in
set_option maxRecDepth 100000 in
theorem c_countModels (l : Launch) (D : va_G) (cI cZ : ClassId) (og ob oe n a : Nat) (Br : Nat → Nat) (f : Nat → Bool) (hn : n ≤ 10) (hB : ∀ v, v < 2 ^ n → Br v < 2 ^ 31) : Met l yX0_countModels (kX0_countModels :: aW) { frames := 0, cells := 0, slots := 0, locals := 0 } (rPre [.ref og] D [(og, .inr (0, [.int (nI n), .int (nI a), .ref ob, .ref oe])), (ob, .inl (cI, (2 ^ n), .inl (fun j => nI (Br j)))), (oe, .inl (cZ, (2 * 2 ^ n), .inl (fun j => bI (f j))))] [(cI, .int), (cZ, .boolean)]) (QcRead (nI (sd_cn (fun v => Br v == 0) (2 ^ n)))) 0 0 (fun _ => False) := by
  refine Met.ofW (cc := cX0_countModels) (maxL := 3) (ret := (some .int)) (by decide) rfl ?_
  intro p e s m args below meth c s₁ Bo hml hpre
  obtain ⟨rfl, hP, hK, hN⟩ := hpre
  have hx := Bo.exec
  have hb := Bo.bytes
  have hr := Bo.returns
  have hts := atoms_spec (ws := kX0_countModels :: aW) Bo.pre
  have ht : ∀ w ∈ aW, w.before _ s = true := fun w h => hts w (List.mem_cons_of_mem _ h)
  have hown : s.vm.findClass RX0 = some m.cls := findClass_of_methodNamed Bo.named
  have hlocks := Bo.notSynchronized
  have hP : va_P D clS [(og, .inr (0, [.int (nI n), .int (nI a), .ref ob, .ref oe])), (ob, .inl (cI, (2 ^ n), .inl (fun j => nI (Br j)))), (oe, .inl (cZ, (2 * 2 ^ n), .inl (fun j => bI (f j))))] s.heap := hP
  have hl := lv_entry ([.ref og]) (n := 3) (Nat.le_of_ble_eq_true rfl)
  rw [lg_entry_eq]
  generalize (lg_sl ([.ref og]) ++ List.replicate (3 - (lg_sl ([.ref og])).length) Slot.unset).toArray = ls at hl ⊢
  have hl : lv_has ls 3 [(0, .ref og)] := hl
  have h2n := hw_p10 hn
  refine lv_iconst (v := nI 0) hx hb dX0_countModels_0 (by decide) ?_
  refine lv_istore_n hx hb dX0_countModels_1 rfl hl (by decide) rfl (fun ls hl => ?_)
  have hl : lv_has ls 3 [(1, .int (nI 0)), (0, .ref og)] := hl
  refine lv_iconst (v := nI 0) hx hb dX0_countModels_2 (by decide) ?_
  refine lv_istore_n hx hb dX0_countModels_3 rfl hl (by decide) rfl (fun ls hl => ?_)
  have hl : lv_has ls 3 [(2, .int (nI 0)), (1, .int (nI 0)), (0, .ref og)] := hl
  have hl : lv_has ls 3 [(0, .ref og), (1, .int (nI 0)), (2, .int (nI 0))] := lv_sub hl [2, 1, 0] rfl
  suffices lp : ∀ k : Nat, ∀ (i : Nat) (ls : Array Slot), (i + k = 2 ^ n) → lv_has ls 3 [(0, .ref og), (1, .int (nI (sd_cn (fun v => Br v == 0) i))), (2, .int (nI i))] → W p l e (headSpec (kX0_countModels :: aW) { frames := 0, cells := 0, slots := 0, locals := 0 }).room s m (([.ref og] : List Value).toArray) below meth c s.heap [] 0 0 (MQ below (QcRead (nI (sd_cn (fun v => Br v == 0) (2 ^ n)))) (([.ref og] : List Value).toArray) s 0 0 (fun _ => False)) (F0 m 4 ls []) by
    exact lp (2 ^ n) 0 ls (by omega) hl
  intro k
  induction k with
  | zero =>
    intro i ls hi hl
    refine lv_iload_n hx hb dX0_countModels_4 rfl (lv_at hl 2 rfl) ?_
    refine lv_aload_n hx hb dX0_countModels_5 rfl (lv_at hl 0 rfl) ?_
    refine va_get (D := D) (ci := 0) (v := .ref ob) (C := RX0) (T := TX0) (N := 4) hx hb ht inX0 hown hK hP 0 rfl rfl 2 (by decide) (ht _ wf_X0_broken) (fun _ h9 => h9) rfl dX0_countModels_6 ?_
    refine va_alen (v := nI (2 ^ n)) hx hb hK hP 1 0 rfl rfl rfl dX0_countModels_9 ?_
    refine lv_icmp_ge (tgt := 31) hx hb dX0_countModels_10 rfl (fun _ => ?_) (fun hc => absurd (show ¬ (2 ^ n ≤ i) from fun h9 => hc ((nI_leI (by omega) (by omega)).mpr h9)) (by omega))
    refine lv_iload_n hx hb dX0_countModels_31 rfl (lv_at hl 1 rfl) ?_
    exact W.iret hx hb hr (fun t ht2 _ => ⟨hw_ret (by rw [show i = 2 ^ n by omega]), ht2⟩) (fun _ h => by cases h) dX0_countModels_32
  | succ k ih =>
    intro i ls hi hl
    refine lv_iload_n hx hb dX0_countModels_4 rfl (lv_at hl 2 rfl) ?_
    refine lv_aload_n hx hb dX0_countModels_5 rfl (lv_at hl 0 rfl) ?_
    refine va_get (D := D) (ci := 0) (v := .ref ob) (C := RX0) (T := TX0) (N := 4) hx hb ht inX0 hown hK hP 0 rfl rfl 2 (by decide) (ht _ wf_X0_broken) (fun _ h9 => h9) rfl dX0_countModels_6 ?_
    refine va_alen (v := nI (2 ^ n)) hx hb hK hP 1 0 rfl rfl rfl dX0_countModels_9 ?_
    refine lv_icmp_ge (tgt := 31) hx hb dX0_countModels_10 rfl (fun hc => absurd (show 2 ^ n ≤ i from (nI_leI (by omega) (by omega)).mp hc) (by omega)) (fun _ => ?_)
    refine lv_aload_n hx hb dX0_countModels_13 rfl (lv_at hl 0 rfl) ?_
    refine va_get (D := D) (ci := 0) (v := .ref ob) (C := RX0) (T := TX0) (N := 4) hx hb ht inX0 hown hK hP 0 rfl rfl 2 (by decide) (ht _ wf_X0_broken) (fun _ h9 => h9) rfl dX0_countModels_14 ?_
    refine lv_iload_n hx hb dX0_countModels_17 rfl (lv_at hl 2 rfl) ?_
    refine na_nald (f := Br) hx hb hK hP 1 0 rfl rfl (j := i) (by omega) (by omega) dX0_countModels_18 ?_
    have hBl := hB i (by omega)
    refine lv_if_ne (tgt := 25) hx hb dX0_countModels_19 rfl (fun hc => ?_) (fun hc => ?_)
    · have hc : ¬ Br i = 0 := fun h9 => hc ((nI_z (by omega)).mpr h9)
      have hl : lv_has ls 3 [(0, .ref og), (1, .int (nI (sd_cn (fun v => Br v == 0) (i + 1)))), (2, .int (nI i))] := by rw [show nI (sd_cn (fun v => Br v == 0) (i + 1)) = nI (sd_cn (fun v => Br v == 0) i) from congrArg nI (sd_cn_f (beq_false_of_ne hc))]; exact hl
      refine lv_iinc (k := 2) (v := nI (i + 1)) hx hb dX0_countModels_25 hl rfl (hw_inc _) (by decide) rfl (fun ls hl => ?_)
      have hl : lv_has ls 3 [(2, .int (nI (i + 1))), (0, .ref og), (1, .int (nI (sd_cn (fun v => Br v == 0) (i + 1))))] := hl
      refine lv_goto (tgt := 4) hx hb dX0_countModels_28 rfl ?_
      have hl : lv_has ls 3 [(0, .ref og), (1, .int (nI (sd_cn (fun v => Br v == 0) (i + 1)))), (2, .int (nI (i + 1)))] := lv_sub hl [1, 2, 0] rfl
      exact ih (i + 1) ls (by omega) hl
    · have hc : Br i = 0 := (nI_z (by omega)).mp hc
      refine lv_iinc (k := 1) (v := nI (sd_cn (fun v => Br v == 0) (i + 1))) hx hb dX0_countModels_22 hl rfl ((hw_inc _).trans (congrArg nI (sd_cn_t (f := fun v => Br v == 0) (i := i) (beq_iff_eq.mpr hc)).symm)) (by decide) rfl (fun ls hl => ?_)
      have hl : lv_has ls 3 [(1, .int (nI (sd_cn (fun v => Br v == 0) (i + 1)))), (0, .ref og), (2, .int (nI i))] := hl
      refine lv_iinc (k := 2) (v := nI (i + 1)) hx hb dX0_countModels_25 hl rfl (hw_inc _) (by decide) rfl (fun ls hl => ?_)
      have hl : lv_has ls 3 [(2, .int (nI (i + 1))), (1, .int (nI (sd_cn (fun v => Br v == 0) (i + 1)))), (0, .ref og)] := hl
      refine lv_goto (tgt := 4) hx hb dX0_countModels_28 rfl ?_
      have hl : lv_has ls 3 [(0, .ref og), (1, .int (nI (sd_cn (fun v => Br v == 0) (i + 1)))), (2, .int (nI (i + 1)))] := lv_sub hl [2, 1, 0] rfl
      exact ih (i + 1) ls (by omega) hl

set_option maxHeartbeats 4000000 in
set_option maxRecDepth 100000 in
theorem c_judgeDepth (l : Launch) (D : va_G) (cI cZ : ClassId) (og ob oe n a : Nat) (d sz : Nat) (Br : Nat → Nat) (G : Nat → Bool) (hn : n ≤ 10) (ha : a < 2 ^ n) (hd : d < n) : Met l yX0_judgeDepth (kX0_judgeDepth :: aW) { frames := 1, cells := 0, slots := 0, locals := 22 } (wPre [.ref og, .int (nI d)] D [(og, .inr (0, [.int (nI n), .int (nI a), .ref ob, .ref oe])), (ob, .inl (cI, (2 ^ n), .inl (fun j => nI (Br j)))), (oe, .inl (cZ, (2 * 2 ^ n), .inl (fun j => bI (G j))))] [(cI, .int), (cZ, .boolean)] sz) (wQ none D [(og, .inr (0, [.int (nI n), .int (nI a), .ref ob, .ref oe])), (ob, .inl (cI, (2 ^ n), .inl (fun j => nI (Br j)))), (oe, .inl (cZ, (2 * 2 ^ n), .inl (fun j => bI ((sd_ji a d G (2 ^ d)) j))))] (va_A [(og, .inr (0, [.int (nI n), .int (nI a), .ref ob, .ref oe])), (ob, .inl (cI, (2 ^ n), .inl (fun j => nI (Br j)))), (oe, .inl (cZ, (2 * 2 ^ n), .inl (fun j => bI (G j))))] sz)) 0 0 (va_A [(og, .inr (0, [.int (nI n), .int (nI a), .ref ob, .ref oe])), (ob, .inl (cI, (2 ^ n), .inl (fun j => nI (Br j)))), (oe, .inl (cZ, (2 * 2 ^ n), .inl (fun j => bI (G j))))] sz) := by
  refine Met.ofW (cc := cX0_judgeDepth) (maxL := 7) (ret := none) (by decide) rfl ?_
  intro p e s m args below meth c s₁ Bo hml hpre
  obtain ⟨rfl, hsz, hP, hK, hN, hD0⟩ := hpre
  subst hsz
  have hD := hD0.self (sz := s.heap.size)
  generalize hAe : va_A [(og, .inr (0, [.int (nI n), .int (nI a), .ref ob, .ref oe])), (ob, .inl (cI, (2 ^ n), .inl (fun j => nI (Br j)))), (oe, .inl (cZ, (2 * 2 ^ n), .inl (fun j => bI (G j))))] s.heap.size = A at hD ⊢
  have hA : ∀ q : Nat, s.heap.size ≤ q → A q := fun q h => by rw [← hAe]; exact Or.inr h
  have hS : va_S A s.heap s.heap [] := va_S.rf
  have hx := Bo.exec
  have hb := Bo.bytes
  have hr := Bo.returns
  have hts := atoms_spec (ws := kX0_judgeDepth :: aW) Bo.pre
  have ht : ∀ w ∈ aW, w.before _ s = true := fun w h => hts w (List.mem_cons_of_mem _ h)
  have hown : s.vm.findClass RX0 = some m.cls := findClass_of_methodNamed Bo.named
  have hlocks := Bo.notSynchronized
  have hP : va_P D clS [(og, .inr (0, [.int (nI n), .int (nI a), .ref ob, .ref oe])), (ob, .inl (cI, (2 ^ n), .inl (fun j => nI (Br j)))), (oe, .inl (cZ, (2 * 2 ^ n), .inl (fun j => bI (G j))))] s.heap := hP
  have hl := lv_entry ([.ref og, .int (nI d)]) (n := 7) (Nat.le_of_ble_eq_true rfl)
  rw [lg_entry_eq]
  generalize (lg_sl ([.ref og, .int (nI d)]) ++ List.replicate (7 - (lg_sl ([.ref og, .int (nI d)])).length) Slot.unset).toArray = ls at hl ⊢
  have hl : lv_has ls 7 [(0, .ref og), (1, .int (nI d))] := hl
  have h2n := hw_p10 hn
  have hp := Nat.two_pow_succ d
  have hdn : 2 ^ (d + 1) ≤ 2 ^ n := Nat.pow_le_pow_right (by decide) hd
  refine lv_aload_n hx hb dX0_judgeDepth_0 rfl (lv_at hl 0 rfl) ?_
  refine va_get (D := D) (ci := 0) (v := .int (nI a)) (C := RX0) (T := TX0) (N := 4) hx hb ht inX0 hown hK hP 0 rfl rfl 1 (by decide) (ht _ wf_X0_adamSet) (fun _ h9 => h9) rfl dX0_judgeDepth_1 ?_
  refine lv_iload_n hx hb dX0_judgeDepth_4 rfl (lv_at hl 1 rfl) ?_
  refine hw_callR (va_runSN (As := [.int (nI a), .int (nI d)]) (rest := []) ⟨hx, hb, hml, hown, ht⟩ (c_bitn l D cI cZ a d (by omega) (by omega)) ⟨va_cnB 2 ht (gA wc_X1_bit) rfl rfl rfl hN (ht _ wn_X1) (by decide +kernel) ⟨Nat.le_of_ble_eq_true rfl, Nat.le_of_ble_eq_true rfl⟩, ht _ wt_X1_bit, trivial⟩ (rPre_S (hP.sub [] rfl) hK hN) rfl rfl hl.1 rfl (lv_room (Nat.le_of_ble_eq_true rfl)) dX0_judgeDepth_5 ⟨Nat.zero_le _, Nat.zero_le _⟩) ?_
  suffices mk : W p l e (headSpec (kX0_judgeDepth :: aW) { frames := 1, cells := 0, slots := 0, locals := 22 }).room s m (([.ref og, .int (nI d)] : List Value).toArray) below meth c s.heap [] 0 0 (MQ below (wQ none D [(og, .inr (0, [.int (nI n), .int (nI a), .ref ob, .ref oe])), (ob, .inl (cI, (2 ^ n), .inl (fun j => nI (Br j)))), (oe, .inl (cZ, (2 * 2 ^ n), .inl (fun j => bI ((sd_ji a d G (2 ^ d)) j))))] A) (([.ref og, .int (nI d)] : List Value).toArray) s 0 0 A) (F0 m 16 ls [.int (bI (!a.testBit d))]) by
    refine lv_if_ne (tgt := 15) hx hb dX0_judgeDepth_8 rfl (fun h1 => ?_) (fun h1 => ?_)
    · have h1 : (a.testBit d) = true := bI_ne0 h1
      refine lv_iconst (v := nI 0) hx hb dX0_judgeDepth_15 (by decide) ?_
      refine lv_nm (y := bI (!a.testBit d)) (hw_0.trans (congrArg bI (show false = (!a.testBit d) by simp [h1]))) ?_
      exact mk
    · have h1 : (a.testBit d) = false := (bI_eq0 _).mp h1
      refine lv_iconst (v := nI 1) hx hb dX0_judgeDepth_11 (by decide) ?_
      refine lv_goto (tgt := 16) hx hb dX0_judgeDepth_12 rfl ?_
      refine lv_nm (y := bI (!a.testBit d)) (hw_1.trans (congrArg bI (show true = (!a.testBit d) by simp [h1]))) ?_
      exact mk
  refine lv_istore_n hx hb dX0_judgeDepth_16 rfl hl (by decide) rfl (fun ls hl => ?_)
  have hl : lv_has ls 7 [(2, .int (bI (!a.testBit d))), (0, .ref og), (1, .int (nI d))] := hl
  refine lv_iconst (v := nI 1) hx hb dX0_judgeDepth_17 (by decide) ?_
  refine lv_iload_n hx hb dX0_judgeDepth_18 rfl (lv_at hl 2 rfl) ?_
  refine lv_ishl hx hb dX0_judgeDepth_19 ?_
  refine lv_nm (y := nI (2 ^ d)) (hw_shl1' (by omega)) ?_
  refine lv_istore_n hx hb dX0_judgeDepth_20 rfl hl (by decide) rfl (fun ls hl => ?_)
  have hl : lv_has ls 7 [(3, .int (nI (2 ^ d))), (2, .int (bI (!a.testBit d))), (0, .ref og), (1, .int (nI d))] := hl
  refine lv_iconst (v := nI 0) hx hb dX0_judgeDepth_21 (by decide) ?_
  refine lv_istore hx hb dX0_judgeDepth_22 hl (by decide) rfl (fun ls hl => ?_)
  have hl : lv_has ls 7 [(4, .int (nI 0)), (3, .int (nI (2 ^ d))), (2, .int (bI (!a.testBit d))), (0, .ref og), (1, .int (nI d))] := hl
  have hl : lv_has ls 7 [(0, .ref og), (1, .int (nI d)), (2, .int (bI (!a.testBit d))), (3, .int (nI (2 ^ d))), (4, .int (nI 0))] := lv_sub hl [3, 4, 2, 1, 0] rfl
  have hP : va_P D clS [(og, .inr (0, [.int (nI n), .int (nI a), .ref ob, .ref oe])), (ob, .inl (cI, (2 ^ n), .inl (fun j => nI (Br j)))), (oe, .inl (cZ, (2 * 2 ^ n), .inl (fun j => bI ((sd_ji a d G 0) j))))] s.heap := hw_cgz hP (sd_ji a d G 0) (q0 := 2) rfl (fun j _ => (if_neg (by omega)).symm) rfl
  have hD : va_D A [(og, .inr (0, [.int (nI n), .int (nI a), .ref ob, .ref oe])), (ob, .inl (cI, (2 ^ n), .inl (fun j => nI (Br j)))), (oe, .inl (cZ, (2 * 2 ^ n), .inl (fun j => bI ((sd_ji a d G 0) j))))] := hw_ad hD rfl
  suffices lp : ∀ k : Nat, ∀ (i : Nat) (ls : Array Slot) (H : Heap) (locs : List Loc), (i + k = 2 ^ d) → lv_has ls 7 [(0, .ref og), (1, .int (nI d)), (2, .int (bI (!a.testBit d))), (3, .int (nI (2 ^ d))), (4, .int (nI i))] → va_P D clS [(og, .inr (0, [.int (nI n), .int (nI a), .ref ob, .ref oe])), (ob, .inl (cI, (2 ^ n), .inl (fun j => nI (Br j)))), (oe, .inl (cZ, (2 * 2 ^ n), .inl (fun j => bI ((sd_ji a d G i) j))))] H → va_S A s.heap H locs → W p l e (headSpec (kX0_judgeDepth :: aW) { frames := 1, cells := 0, slots := 0, locals := 22 }).room s m (([.ref og, .int (nI d)] : List Value).toArray) below meth c H locs 0 0 (MQ below (wQ none D [(og, .inr (0, [.int (nI n), .int (nI a), .ref ob, .ref oe])), (ob, .inl (cI, (2 ^ n), .inl (fun j => nI (Br j)))), (oe, .inl (cZ, (2 * 2 ^ n), .inl (fun j => bI ((sd_ji a d G (2 ^ d)) j))))] A) (([.ref og, .int (nI d)] : List Value).toArray) s 0 0 A) (F0 m 24 ls []) by
    exact lp (2 ^ d) 0 ls s.heap [] (by omega) hl hP hS
  intro k
  induction k with
  | zero =>
    intro i ls H locs hi hl hP hS
    have hD : va_D A [(og, .inr (0, [.int (nI n), .int (nI a), .ref ob, .ref oe])), (ob, .inl (cI, (2 ^ n), .inl (fun j => nI (Br j)))), (oe, .inl (cZ, (2 * 2 ^ n), .inl (fun j => bI ((sd_ji a d G i) j))))] := hw_ad hD rfl
    refine lv_iload hx hb dX0_judgeDepth_24 (lv_at hl 4 rfl) ?_
    refine lv_iload_n hx hb dX0_judgeDepth_26 rfl (lv_at hl 3 rfl) ?_
    refine lv_icmp_ge (tgt := 106) hx hb dX0_judgeDepth_27 rfl (fun _ => ?_) (fun hc => absurd (show ¬ (2 ^ d ≤ i) from fun h9 => hc ((nI_leI (by omega) (by omega)).mpr h9)) (by omega))
    obtain rfl : i = 2 ^ d := by omega
    exact W.vret hx hb hr (fun t ht2 _ => ⟨rfl, by rw [ht2]; exact hP, hS.F ht2⟩) hS.2.2 dX0_judgeDepth_106
  | succ k ih =>
    intro i ls H locs hi hl hP hS
    have hD : va_D A [(og, .inr (0, [.int (nI n), .int (nI a), .ref ob, .ref oe])), (ob, .inl (cI, (2 ^ n), .inl (fun j => nI (Br j)))), (oe, .inl (cZ, (2 * 2 ^ n), .inl (fun j => bI ((sd_ji a d G i) j))))] := hw_ad hD rfl
    refine lv_iload hx hb dX0_judgeDepth_24 (lv_at hl 4 rfl) ?_
    refine lv_iload_n hx hb dX0_judgeDepth_26 rfl (lv_at hl 3 rfl) ?_
    refine lv_icmp_ge (tgt := 106) hx hb dX0_judgeDepth_27 rfl (fun hc => absurd (show 2 ^ d ≤ i from (nI_leI (by omega) (by omega)).mp hc) (by omega)) (fun _ => ?_)
    refine lv_aload_n hx hb dX0_judgeDepth_30 rfl (lv_at hl 0 rfl) ?_
    refine lv_iload_n hx hb dX0_judgeDepth_31 rfl (lv_at hl 1 rfl) ?_
    refine lv_iconst (v := nI 1) hx hb dX0_judgeDepth_32 (by decide) ?_
    refine lv_iadd hx hb dX0_judgeDepth_33 ?_
    refine lv_nm (y := nI (d + 1)) (nI_add _ _) ?_
    refine lv_iload hx hb dX0_judgeDepth_34 (lv_at hl 4 rfl) ?_
    refine hw_callR (va_runV (b := og) (As := [.int (nI (d + 1)), .int (nI i)]) (rest := []) ⟨hx, hb, hml, hown, ht⟩ (c_eveWinsAt l D cI cZ og ob oe n a (d + 1) i Br (sd_ji a d G i) hn (by omega) (by omega)) (cwV 2 ht (gV wm_X0_X0_eveWinsAt wi_X0_eveWinsAt ws_X0_eveWinsAt wn_X0 wc_X0_eveWinsAt) rfl rfl rfl (by decide +kernel) ⟨Nat.le_of_ble_eq_true rfl, Nat.le_of_ble_eq_true rfl⟩) (rPre_V 0 hP hK hN rfl rfl) rfl rfl hl.1 rfl (lv_room (Nat.le_of_ble_eq_true rfl)) dX0_judgeDepth_36 ⟨Nat.zero_le _, Nat.zero_le _⟩) ?_
    refine lv_istore hx hb dX0_judgeDepth_39 hl (by decide) rfl (fun ls hl => ?_)
    have hl : lv_has ls 7 [(5, .int (bI (sd_ji a d G i (2 ^ (d + 1) + i)))), (0, .ref og), (1, .int (nI d)), (2, .int (bI (!a.testBit d))), (3, .int (nI (2 ^ d))), (4, .int (nI i))] := hl
    refine lv_aload_n hx hb dX0_judgeDepth_41 rfl (lv_at hl 1 rfl) ?_
    refine lv_iload_n hx hb dX0_judgeDepth_42 rfl (lv_at hl 2 rfl) ?_
    refine lv_iconst (v := nI 1) hx hb dX0_judgeDepth_43 (by decide) ?_
    refine lv_iadd hx hb dX0_judgeDepth_44 ?_
    refine lv_nm (y := nI (d + 1)) (nI_add _ _) ?_
    refine lv_iload hx hb dX0_judgeDepth_45 (lv_at hl 5 rfl) ?_
    refine lv_iload_n hx hb dX0_judgeDepth_47 rfl (lv_at hl 4 rfl) ?_
    refine lv_ior hx hb dX0_judgeDepth_48 ?_
    refine lv_nm (y := nI (i ||| (2 ^ d))) (hw_or _ _) ?_
    refine lv_nm (y := nI (i + 2 ^ d)) (congrArg nI (Nat.or_two_pow_eq_add_of_lt (by omega))) ?_
    refine hw_callR (va_runV (b := og) (As := [.int (nI (d + 1)), .int (nI (i + 2 ^ d))]) (rest := []) ⟨hx, hb, hml, hown, ht⟩ (c_eveWinsAt l D cI cZ og ob oe n a (d + 1) (i + 2 ^ d) Br (sd_ji a d G i) hn (by omega) (by omega)) (cwV 2 ht (gV wm_X0_X0_eveWinsAt wi_X0_eveWinsAt ws_X0_eveWinsAt wn_X0 wc_X0_eveWinsAt) rfl rfl rfl (by decide +kernel) ⟨Nat.le_of_ble_eq_true rfl, Nat.le_of_ble_eq_true rfl⟩) (rPre_V 0 hP hK hN rfl rfl) rfl rfl hl.1 rfl (lv_room (Nat.le_of_ble_eq_true rfl)) dX0_judgeDepth_49 ⟨Nat.zero_le _, Nat.zero_le _⟩) ?_
    refine lv_istore hx hb dX0_judgeDepth_52 hl (by decide) rfl (fun ls hl => ?_)
    have hl : lv_has ls 7 [(6, .int (bI (sd_ji a d G i (2 ^ (d + 1) + (i + 2 ^ d))))), (5, .int (bI (sd_ji a d G i (2 ^ (d + 1) + i)))), (0, .ref og), (1, .int (nI d)), (2, .int (bI (!a.testBit d))), (3, .int (nI (2 ^ d))), (4, .int (nI i))] := hl
    refine lv_aload_n hx hb dX0_judgeDepth_54 rfl (lv_at hl 2 rfl) ?_
    refine va_get (D := D) (ci := 0) (v := .ref oe) (C := RX0) (T := TX0) (N := 4) hx hb ht inX0 hown hK hP 0 rfl rfl 3 (by decide) (ht _ wf_X0_eveWins) (fun _ h9 => h9) rfl dX0_judgeDepth_55 ?_
    refine lv_iload_n hx hb dX0_judgeDepth_58 rfl (lv_at hl 5 rfl) ?_
    refine lv_iload hx hb dX0_judgeDepth_59 (lv_at hl 6 rfl) ?_
    refine lv_iadd hx hb dX0_judgeDepth_61 ?_
    refine lv_nm (y := nI ((2 ^ d) + i)) (nI_add _ _) ?_
    refine lv_iload_n hx hb dX0_judgeDepth_62 rfl (lv_at hl 4 rfl) ?_
    suffices mk : W p l e (headSpec (kX0_judgeDepth :: aW) { frames := 1, cells := 0, slots := 0, locals := 22 }).room s m (([.ref og, .int (nI d)] : List Value).toArray) below meth c H locs 0 0 (MQ below (wQ none D [(og, .inr (0, [.int (nI n), .int (nI a), .ref ob, .ref oe])), (ob, .inl (cI, (2 ^ n), .inl (fun j => nI (Br j)))), (oe, .inl (cZ, (2 * 2 ^ n), .inl (fun j => bI ((sd_ji a d G (2 ^ d)) j))))] A) (([.ref og, .int (nI d)] : List Value).toArray) s 0 0 A) (F0 m 99 ls [.int (bI (sd_C (a.testBit d) (sd_ji a d G i (2 ^ (d + 1) + i)) (sd_ji a d G i (2 ^ (d + 1) + (i + 2 ^ d))))), .int (nI ((2 ^ d) + i)), .ref oe]) by
      refine lv_if_eq (tgt := 84) hx hb dX0_judgeDepth_63 rfl (fun h1 => ?_) (fun h1 => ?_)
      · have h1 : (!a.testBit d) = false := (bI_eq0 _).mp h1
        refine lv_iload hx hb dX0_judgeDepth_84 (lv_at hl 1 rfl) ?_
        refine lv_if_eq (tgt := 98) hx hb dX0_judgeDepth_86 rfl (fun h2 => ?_) (fun h2 => ?_)
        · have h2 : (sd_ji a d G i (2 ^ (d + 1) + i)) = false := (bI_eq0 _).mp h2
          refine lv_iconst (v := nI 0) hx hb dX0_judgeDepth_98 (by decide) ?_
          refine lv_nm (y := bI (sd_C (a.testBit d) (sd_ji a d G i (2 ^ (d + 1) + i)) (sd_ji a d G i (2 ^ (d + 1) + (i + 2 ^ d))))) (hw_0.trans (congrArg bI (show false = (sd_C (a.testBit d) (sd_ji a d G i (2 ^ (d + 1) + i)) (sd_ji a d G i (2 ^ (d + 1) + (i + 2 ^ d)))) by revert h1 h2; unfold sd_C; generalize a.testBit d = x1; generalize sd_ji a d G i (2 ^ (d + 1) + i) = x2; generalize sd_ji a d G i (2 ^ (d + 1) + (i + 2 ^ d)) = x3; revert x1 x2 x3; decide))) ?_
          exact mk
        · have h2 : (sd_ji a d G i (2 ^ (d + 1) + i)) = true := bI_ne0 h2
          refine lv_iload hx hb dX0_judgeDepth_89 (lv_at hl 0 rfl) ?_
          refine lv_if_eq (tgt := 98) hx hb dX0_judgeDepth_91 rfl (fun h3 => ?_) (fun h3 => ?_)
          · have h3 : (sd_ji a d G i (2 ^ (d + 1) + (i + 2 ^ d))) = false := (bI_eq0 _).mp h3
            refine lv_iconst (v := nI 0) hx hb dX0_judgeDepth_98 (by decide) ?_
            refine lv_nm (y := bI (sd_C (a.testBit d) (sd_ji a d G i (2 ^ (d + 1) + i)) (sd_ji a d G i (2 ^ (d + 1) + (i + 2 ^ d))))) (hw_0.trans (congrArg bI (show false = (sd_C (a.testBit d) (sd_ji a d G i (2 ^ (d + 1) + i)) (sd_ji a d G i (2 ^ (d + 1) + (i + 2 ^ d)))) by revert h1 h2 h3; unfold sd_C; generalize a.testBit d = x1; generalize sd_ji a d G i (2 ^ (d + 1) + i) = x2; generalize sd_ji a d G i (2 ^ (d + 1) + (i + 2 ^ d)) = x3; revert x1 x2 x3; decide))) ?_
            exact mk
          · have h3 : (sd_ji a d G i (2 ^ (d + 1) + (i + 2 ^ d))) = true := bI_ne0 h3
            refine lv_iconst (v := nI 1) hx hb dX0_judgeDepth_94 (by decide) ?_
            refine lv_goto (tgt := 99) hx hb dX0_judgeDepth_95 rfl ?_
            refine lv_nm (y := bI (sd_C (a.testBit d) (sd_ji a d G i (2 ^ (d + 1) + i)) (sd_ji a d G i (2 ^ (d + 1) + (i + 2 ^ d))))) (hw_1.trans (congrArg bI (show true = (sd_C (a.testBit d) (sd_ji a d G i (2 ^ (d + 1) + i)) (sd_ji a d G i (2 ^ (d + 1) + (i + 2 ^ d)))) by revert h1 h2 h3; unfold sd_C; generalize a.testBit d = x1; generalize sd_ji a d G i (2 ^ (d + 1) + i) = x2; generalize sd_ji a d G i (2 ^ (d + 1) + (i + 2 ^ d)) = x3; revert x1 x2 x3; decide))) ?_
            exact mk
      · have h1 : (!a.testBit d) = true := bI_ne0 h1
        refine lv_iload hx hb dX0_judgeDepth_66 (lv_at hl 1 rfl) ?_
        refine lv_if_ne (tgt := 76) hx hb dX0_judgeDepth_68 rfl (fun h2 => ?_) (fun h2 => ?_)
        · have h2 : (sd_ji a d G i (2 ^ (d + 1) + i)) = true := bI_ne0 h2
          refine lv_iconst (v := nI 1) hx hb dX0_judgeDepth_76 (by decide) ?_
          refine lv_goto (tgt := 99) hx hb dX0_judgeDepth_77 rfl ?_
          refine lv_nm (y := bI (sd_C (a.testBit d) (sd_ji a d G i (2 ^ (d + 1) + i)) (sd_ji a d G i (2 ^ (d + 1) + (i + 2 ^ d))))) (hw_1.trans (congrArg bI (show true = (sd_C (a.testBit d) (sd_ji a d G i (2 ^ (d + 1) + i)) (sd_ji a d G i (2 ^ (d + 1) + (i + 2 ^ d)))) by revert h1 h2; unfold sd_C; generalize a.testBit d = x1; generalize sd_ji a d G i (2 ^ (d + 1) + i) = x2; generalize sd_ji a d G i (2 ^ (d + 1) + (i + 2 ^ d)) = x3; revert x1 x2 x3; decide))) ?_
          exact mk
        · have h2 : (sd_ji a d G i (2 ^ (d + 1) + i)) = false := (bI_eq0 _).mp h2
          refine lv_iload hx hb dX0_judgeDepth_71 (lv_at hl 0 rfl) ?_
          refine lv_if_eq (tgt := 80) hx hb dX0_judgeDepth_73 rfl (fun h3 => ?_) (fun h3 => ?_)
          · have h3 : (sd_ji a d G i (2 ^ (d + 1) + (i + 2 ^ d))) = false := (bI_eq0 _).mp h3
            refine lv_iconst (v := nI 0) hx hb dX0_judgeDepth_80 (by decide) ?_
            refine lv_goto (tgt := 99) hx hb dX0_judgeDepth_81 rfl ?_
            refine lv_nm (y := bI (sd_C (a.testBit d) (sd_ji a d G i (2 ^ (d + 1) + i)) (sd_ji a d G i (2 ^ (d + 1) + (i + 2 ^ d))))) (hw_0.trans (congrArg bI (show false = (sd_C (a.testBit d) (sd_ji a d G i (2 ^ (d + 1) + i)) (sd_ji a d G i (2 ^ (d + 1) + (i + 2 ^ d)))) by revert h1 h2 h3; unfold sd_C; generalize a.testBit d = x1; generalize sd_ji a d G i (2 ^ (d + 1) + i) = x2; generalize sd_ji a d G i (2 ^ (d + 1) + (i + 2 ^ d)) = x3; revert x1 x2 x3; decide))) ?_
            exact mk
          · have h3 : (sd_ji a d G i (2 ^ (d + 1) + (i + 2 ^ d))) = true := bI_ne0 h3
            refine lv_iconst (v := nI 1) hx hb dX0_judgeDepth_76 (by decide) ?_
            refine lv_goto (tgt := 99) hx hb dX0_judgeDepth_77 rfl ?_
            refine lv_nm (y := bI (sd_C (a.testBit d) (sd_ji a d G i (2 ^ (d + 1) + i)) (sd_ji a d G i (2 ^ (d + 1) + (i + 2 ^ d))))) (hw_1.trans (congrArg bI (show true = (sd_C (a.testBit d) (sd_ji a d G i (2 ^ (d + 1) + i)) (sd_ji a d G i (2 ^ (d + 1) + (i + 2 ^ d)))) by revert h1 h2 h3; unfold sd_C; generalize a.testBit d = x1; generalize sd_ji a d G i (2 ^ (d + 1) + i) = x2; generalize sd_ji a d G i (2 ^ (d + 1) + (i + 2 ^ d)) = x3; revert x1 x2 x3; decide))) ?_
            exact mk
    refine na_zast (f := sd_ji a d G i) (b := sd_C (a.testBit d) (sd_ji a d G i (2 ^ (d + 1) + i)) (sd_ji a d G i (2 ^ (d + 1) + (i + 2 ^ d)))) hx hb hK hP hD hS 2 1 rfl rfl (j := (2 ^ d) + i) (by omega) (by omega) dX0_judgeDepth_99 (fun H locs hP hD hS => ?_)
    have hP : va_P D clS [(og, .inr (0, [.int (nI n), .int (nI a), .ref ob, .ref oe])), (ob, .inl (cI, (2 ^ n), .inl (fun j => nI (Br j)))), (oe, .inl (cZ, (2 * 2 ^ n), .inl (fun j => bI ((va_up (sd_ji a d G i) ((2 ^ d) + i) (sd_C (a.testBit d) (sd_ji a d G i (2 ^ (d + 1) + i)) (sd_ji a d G i (2 ^ (d + 1) + (i + 2 ^ d))))) j))))] H := hP
    have hD : va_D A [(og, .inr (0, [.int (nI n), .int (nI a), .ref ob, .ref oe])), (ob, .inl (cI, (2 ^ n), .inl (fun j => nI (Br j)))), (oe, .inl (cZ, (2 * 2 ^ n), .inl (fun j => bI ((va_up (sd_ji a d G i) ((2 ^ d) + i) (sd_C (a.testBit d) (sd_ji a d G i (2 ^ (d + 1) + i)) (sd_ji a d G i (2 ^ (d + 1) + (i + 2 ^ d))))) j))))] := hD
    have hP : va_P D clS [(og, .inr (0, [.int (nI n), .int (nI a), .ref ob, .ref oe])), (ob, .inl (cI, (2 ^ n), .inl (fun j => nI (Br j)))), (oe, .inl (cZ, (2 * 2 ^ n), .inl (fun j => bI ((sd_ji a d G (i + 1)) j))))] H := hw_cgz hP (sd_ji a d G (i + 1)) (q0 := 2) rfl (fun j _ => sd_ji_s (by omega) j) rfl
    have hD : va_D A [(og, .inr (0, [.int (nI n), .int (nI a), .ref ob, .ref oe])), (ob, .inl (cI, (2 ^ n), .inl (fun j => nI (Br j)))), (oe, .inl (cZ, (2 * 2 ^ n), .inl (fun j => bI ((sd_ji a d G (i + 1)) j))))] := hw_ad hD rfl
    refine lv_iinc (k := 6) (v := nI (i + 1)) hx hb dX0_judgeDepth_100 hl rfl (hw_inc _) (by decide) rfl (fun ls hl => ?_)
    have hl : lv_has ls 7 [(4, .int (nI (i + 1))), (6, .int (bI (sd_ji a d G i (2 ^ (d + 1) + (i + 2 ^ d))))), (5, .int (bI (sd_ji a d G i (2 ^ (d + 1) + i)))), (0, .ref og), (1, .int (nI d)), (2, .int (bI (!a.testBit d))), (3, .int (nI (2 ^ d)))] := hl
    refine lv_goto (tgt := 24) hx hb dX0_judgeDepth_103 rfl ?_
    have hl : lv_has ls 7 [(0, .ref og), (1, .int (nI d)), (2, .int (bI (!a.testBit d))), (3, .int (nI (2 ^ d))), (4, .int (nI (i + 1)))] := lv_sub hl [3, 4, 5, 6, 0] rfl
    exact ih (i + 1) ls H locs (by omega) hl hP hS

set_option maxHeartbeats 4000000 in
set_option maxRecDepth 100000 in
theorem c_judgeAll (l : Launch) (D : va_G) (cI cZ : ClassId) (og ob oe n a : Nat) (sz : Nat) (Br : Nat → Nat) (f : Nat → Bool) (hn1 : 1 ≤ n) (hn : n ≤ 10) (ha : a < 2 ^ n) (hB : ∀ v, v < 2 ^ n → Br v < 2 ^ 31) (hf0 : f 0 = false) : Met l yX0_judgeAll (kX0_judgeAll :: aW) { frames := 2, cells := 0, slots := 0, locals := 48 } (wPre [.ref og] D [(og, .inr (0, [.int (nI n), .int (nI a), .ref ob, .ref oe])), (ob, .inl (cI, (2 ^ n), .inl (fun j => nI (Br j)))), (oe, .inl (cZ, (2 * 2 ^ n), .inl (fun j => bI (f j))))] [(cI, .int), (cZ, .boolean)] sz) (wQ none D [(og, .inr (0, [.int (nI n), .int (nI a), .ref ob, .ref oe])), (ob, .inl (cI, (2 ^ n), .inl (fun j => nI (Br j)))), (oe, .inl (cZ, (2 * 2 ^ n), .inl (fun j => bI ((sd_ew n a (fun v => Br v == 0)) j))))] (va_A [(og, .inr (0, [.int (nI n), .int (nI a), .ref ob, .ref oe])), (ob, .inl (cI, (2 ^ n), .inl (fun j => nI (Br j)))), (oe, .inl (cZ, (2 * 2 ^ n), .inl (fun j => bI (f j))))] sz)) 0 0 (va_A [(og, .inr (0, [.int (nI n), .int (nI a), .ref ob, .ref oe])), (ob, .inl (cI, (2 ^ n), .inl (fun j => nI (Br j)))), (oe, .inl (cZ, (2 * 2 ^ n), .inl (fun j => bI (f j))))] sz) := by
  refine Met.ofW (cc := cX0_judgeAll) (maxL := 2) (ret := none) (by decide) rfl ?_
  intro p e s m args below meth c s₁ Bo hml hpre
  obtain ⟨rfl, hsz, hP, hK, hN, hD0⟩ := hpre
  subst hsz
  have hD := hD0.self (sz := s.heap.size)
  generalize hAe : va_A [(og, .inr (0, [.int (nI n), .int (nI a), .ref ob, .ref oe])), (ob, .inl (cI, (2 ^ n), .inl (fun j => nI (Br j)))), (oe, .inl (cZ, (2 * 2 ^ n), .inl (fun j => bI (f j))))] s.heap.size = A at hD ⊢
  have hA : ∀ q : Nat, s.heap.size ≤ q → A q := fun q h => by rw [← hAe]; exact Or.inr h
  have hS : va_S A s.heap s.heap [] := va_S.rf
  have hx := Bo.exec
  have hb := Bo.bytes
  have hr := Bo.returns
  have hts := atoms_spec (ws := kX0_judgeAll :: aW) Bo.pre
  have ht : ∀ w ∈ aW, w.before _ s = true := fun w h => hts w (List.mem_cons_of_mem _ h)
  have hown : s.vm.findClass RX0 = some m.cls := findClass_of_methodNamed Bo.named
  have hlocks := Bo.notSynchronized
  have hP : va_P D clS [(og, .inr (0, [.int (nI n), .int (nI a), .ref ob, .ref oe])), (ob, .inl (cI, (2 ^ n), .inl (fun j => nI (Br j)))), (oe, .inl (cZ, (2 * 2 ^ n), .inl (fun j => bI (f j))))] s.heap := hP
  have hl := lv_entry ([.ref og]) (n := 2) (Nat.le_of_ble_eq_true rfl)
  rw [lg_entry_eq]
  generalize (lg_sl ([.ref og]) ++ List.replicate (2 - (lg_sl ([.ref og])).length) Slot.unset).toArray = ls at hl ⊢
  have hl : lv_has ls 2 [(0, .ref og)] := hl
  have h2n := hw_p10 hn
  refine lv_iconst (v := nI 0) hx hb dX0_judgeAll_0 (by decide) ?_
  refine lv_istore_n hx hb dX0_judgeAll_1 rfl hl (by decide) rfl (fun ls hl => ?_)
  have hl : lv_has ls 2 [(1, .int (nI 0)), (0, .ref og)] := hl
  have hl : lv_has ls 2 [(0, .ref og), (1, .int (nI 0))] := lv_sub hl [1, 0] rfl
  suffices lp : ∀ k : Nat, ∀ (i : Nat) (F : Nat → Bool) (ls : Array Slot) (H : Heap) (locs : List Loc), (i + k = 2 ^ n) → (∀ j, j < i → F (2 ^ n + j) = (Br j == 0)) → (F 0 = false) → lv_has ls 2 [(0, .ref og), (1, .int (nI i))] → va_P D clS [(og, .inr (0, [.int (nI n), .int (nI a), .ref ob, .ref oe])), (ob, .inl (cI, (2 ^ n), .inl (fun j => nI (Br j)))), (oe, .inl (cZ, (2 * 2 ^ n), .inl (fun j => bI (F j))))] H → va_S A s.heap H locs → W p l e (headSpec (kX0_judgeAll :: aW) { frames := 2, cells := 0, slots := 0, locals := 48 }).room s m (([.ref og] : List Value).toArray) below meth c H locs 0 0 (MQ below (wQ none D [(og, .inr (0, [.int (nI n), .int (nI a), .ref ob, .ref oe])), (ob, .inl (cI, (2 ^ n), .inl (fun j => nI (Br j)))), (oe, .inl (cZ, (2 * 2 ^ n), .inl (fun j => bI ((sd_ew n a (fun v => Br v == 0)) j))))] A) (([.ref og] : List Value).toArray) s 0 0 A) (F0 m 2 ls []) by
    exact lp (2 ^ n) 0 f ls s.heap [] (by omega) (fun j hj => by omega) hf0 hl hP hS
  intro k
  induction k with
  | zero =>
    intro i F ls H locs hi hF hF0 hl hP hS
    have hD : va_D A [(og, .inr (0, [.int (nI n), .int (nI a), .ref ob, .ref oe])), (ob, .inl (cI, (2 ^ n), .inl (fun j => nI (Br j)))), (oe, .inl (cZ, (2 * 2 ^ n), .inl (fun j => bI (F j))))] := hw_ad hD rfl
    refine lv_iload_n hx hb dX0_judgeAll_2 rfl (lv_at hl 1 rfl) ?_
    refine lv_aload_n hx hb dX0_judgeAll_3 rfl (lv_at hl 0 rfl) ?_
    refine va_get (D := D) (ci := 0) (v := .ref ob) (C := RX0) (T := TX0) (N := 4) hx hb ht inX0 hown hK hP 0 rfl rfl 2 (by decide) (ht _ wf_X0_broken) (fun _ h9 => h9) rfl dX0_judgeAll_4 ?_
    refine va_alen (v := nI (2 ^ n)) hx hb hK hP 1 0 rfl rfl rfl dX0_judgeAll_7 ?_
    refine lv_icmp_ge (tgt := 43) hx hb dX0_judgeAll_8 rfl (fun _ => ?_) (fun hc => absurd (show ¬ (2 ^ n ≤ i) from fun h9 => hc ((nI_leI (by omega) (by omega)).mpr h9)) (by omega))
    obtain rfl : i = 2 ^ n := by omega
    refine lv_aload_n hx hb dX0_judgeAll_43 rfl (lv_at hl 0 rfl) ?_
    refine va_get (D := D) (ci := 0) (v := .int (nI n)) (C := RX0) (T := TX0) (N := 4) hx hb ht inX0 hown hK hP 0 rfl rfl 0 (by decide) (ht _ wf_X0_size) (fun _ h9 => h9) rfl dX0_judgeAll_44 ?_
    refine lv_iconst (v := nI 1) hx hb dX0_judgeAll_47 (by decide) ?_
    refine lv_isub hx hb dX0_judgeAll_48 ?_
    refine lv_nm (y := nI (n - 1)) (pk_sub (by omega)) ?_
    refine lv_istore_n hx hb dX0_judgeAll_49 rfl hl (by decide) rfl (fun ls hl => ?_)
    have hl : lv_has ls 2 [(1, .int (nI (n - 1))), (0, .ref og)] := hl
    have hl : lv_has ls 2 [(0, .ref og), (1, .int (nI (n - 1)))] := lv_sub hl [1, 0] rfl
    have hl : lv_has ls 2 [(0, .ref og), (1, .int (nI n - 1))] := by rw [show nI n - 1 = nI (n - 1) from pk_sub (a := n) (b := 1) (by omega)]; exact hl
    suffices lq : ∀ k : Nat, ∀ (F : Nat → Bool) (ls : Array Slot) (H : Heap) (locs : List Loc), (k ≤ n) → (∀ j, 2 ^ k ≤ j → j < 2 * 2 ^ n → F j = sd_ew n a (fun v => Br v == 0) j) → (F 0 = false) → lv_has ls 2 [(0, .ref og), (1, .int (nI k - 1))] → va_P D clS [(og, .inr (0, [.int (nI n), .int (nI a), .ref ob, .ref oe])), (ob, .inl (cI, (2 ^ n), .inl (fun j => nI (Br j)))), (oe, .inl (cZ, (2 * 2 ^ n), .inl (fun j => bI (F j))))] H → va_S A s.heap H locs → W p l e (headSpec (kX0_judgeAll :: aW) { frames := 2, cells := 0, slots := 0, locals := 48 }).room s m (([.ref og] : List Value).toArray) below meth c H locs 0 0 (MQ below (wQ none D [(og, .inr (0, [.int (nI n), .int (nI a), .ref ob, .ref oe])), (ob, .inl (cI, (2 ^ n), .inl (fun j => nI (Br j)))), (oe, .inl (cZ, (2 * 2 ^ n), .inl (fun j => bI ((sd_ew n a (fun v => Br v == 0)) j))))] A) (([.ref og] : List Value).toArray) s 0 0 A) (F0 m 50 ls []) by
      exact lq n F ls H locs (Nat.le_refl n) (sd_leafs hF) hF0 hl hP hS
    intro k
    induction k with
    | zero =>
      intro F ls H locs hk hG hF0 hl hP hS
      have hD : va_D A [(og, .inr (0, [.int (nI n), .int (nI a), .ref ob, .ref oe])), (ob, .inl (cI, (2 ^ n), .inl (fun j => nI (Br j)))), (oe, .inl (cZ, (2 * 2 ^ n), .inl (fun j => bI (F j))))] := hw_ad hD rfl
      refine lv_iload_n hx hb dX0_judgeAll_50 rfl (lv_at hl 1 rfl) ?_
      refine lv_if_lt (tgt := 65) hx hb dX0_judgeAll_51 rfl (fun _ => ?_) (fun hc => absurd (by decide) hc)
      have hP : va_P D clS [(og, .inr (0, [.int (nI n), .int (nI a), .ref ob, .ref oe])), (ob, .inl (cI, (2 ^ n), .inl (fun j => nI (Br j)))), (oe, .inl (cZ, (2 * 2 ^ n), .inl (fun j => bI ((sd_ew n a (fun v => Br v == 0)) j))))] H := hw_cgz hP (sd_ew n a (fun v => Br v == 0)) (q0 := 2) rfl (fun j hj => (Nat.eq_zero_or_pos j).elim (fun h0 => by subst h0; exact hF0) (fun h0 => hG j (Nat.le_trans (by decide) h0) hj)) rfl
      have hD : va_D A [(og, .inr (0, [.int (nI n), .int (nI a), .ref ob, .ref oe])), (ob, .inl (cI, (2 ^ n), .inl (fun j => nI (Br j)))), (oe, .inl (cZ, (2 * 2 ^ n), .inl (fun j => bI ((sd_ew n a (fun v => Br v == 0)) j))))] := hw_ad hD rfl
      exact W.vret hx hb hr (fun t ht2 _ => ⟨rfl, by rw [ht2]; exact hP, hS.F ht2⟩) hS.2.2 dX0_judgeAll_65
    | succ k ih2 =>
      intro F ls H locs hk hG hF0 hl hP hS
      have hD : va_D A [(og, .inr (0, [.int (nI n), .int (nI a), .ref ob, .ref oe])), (ob, .inl (cI, (2 ^ n), .inl (fun j => nI (Br j)))), (oe, .inl (cZ, (2 * 2 ^ n), .inl (fun j => bI (F j))))] := hw_ad hD rfl
      have hl : lv_has ls 2 [(0, .ref og), (1, .int (nI k))] := by rw [show nI k = nI (k + 1) - 1 from (nI_pred k).symm]; exact hl
      refine lv_iload_n hx hb dX0_judgeAll_50 rfl (lv_at hl 1 rfl) ?_
      refine lv_if_lt (tgt := 65) hx hb dX0_judgeAll_51 rfl (fun hc => absurd (nI_pos (by omega) hc) id) (fun _ => ?_)
      refine lv_aload_n hx hb dX0_judgeAll_54 rfl (lv_at hl 0 rfl) ?_
      refine lv_iload_n hx hb dX0_judgeAll_55 rfl (lv_at hl 1 rfl) ?_
      refine hw_callW (ws' := [(og, .inr (0, [.int (nI n), .int (nI a), .ref ob, .ref oe])), (ob, .inl (cI, (2 ^ n), .inl (fun j => nI (Br j)))), (oe, .inl (cZ, (2 * 2 ^ n), .inl (fun j => bI ((sd_ji a k F (2 ^ k)) j))))]) (va_runV (b := og) (As := [.int (nI k)]) (rest := []) ⟨hx, hb, hml, hown, ht⟩ (c_judgeDepth l D cI cZ og ob oe n a k H.size Br F hn ha (by omega)) (cwV 1 ht (gV wm_X0_X0_judgeDepth wi_X0_judgeDepth ws_X0_judgeDepth wn_X0 wc_X0_judgeDepth) rfl rfl rfl (by decide +kernel) ⟨Nat.le_of_ble_eq_true rfl, Nat.le_of_ble_eq_true rfl⟩) (wPre_V 0 hP hD hK hN rfl rfl) rfl rfl hl.1 rfl (lv_room (Nat.le_of_ble_eq_true rfl)) dX0_judgeAll_56 ⟨Nat.zero_le _, Nat.zero_le _⟩) hD hS hA rfl (fun H locs hP hD hS => ?_)
      have hP : va_P D clS [(og, .inr (0, [.int (nI n), .int (nI a), .ref ob, .ref oe])), (ob, .inl (cI, (2 ^ n), .inl (fun j => nI (Br j)))), (oe, .inl (cZ, (2 * 2 ^ n), .inl (fun j => bI ((sd_ji a k F (2 ^ k)) j))))] H := hP
      have hD : va_D A [(og, .inr (0, [.int (nI n), .int (nI a), .ref ob, .ref oe])), (ob, .inl (cI, (2 ^ n), .inl (fun j => nI (Br j)))), (oe, .inl (cZ, (2 * 2 ^ n), .inl (fun j => bI ((sd_ji a k F (2 ^ k)) j))))] := hD
      refine W.eq (g2 := F0 m 59 ls []) rfl ?_
      refine lv_iinc (k := 1) (v := nI k - 1) hx hb dX0_judgeAll_59 hl rfl (hw_m1 _) (by decide) rfl (fun ls hl => ?_)
      have hl : lv_has ls 2 [(1, .int (nI k - 1)), (0, .ref og)] := hl
      refine lv_goto (tgt := 50) hx hb dX0_judgeAll_62 rfl ?_
      have hl : lv_has ls 2 [(0, .ref og), (1, .int (nI k - 1))] := lv_sub hl [1, 0] rfl
      exact ih2 (sd_ji a k F (2 ^ k)) ls H locs (by omega) (sd_ji_ok (by omega) hG) ((if_neg (by have h9 := Nat.two_pow_pos k; omega)).trans hF0) hl hP hS
  | succ k ih =>
    intro i F ls H locs hi hF hF0 hl hP hS
    have hD : va_D A [(og, .inr (0, [.int (nI n), .int (nI a), .ref ob, .ref oe])), (ob, .inl (cI, (2 ^ n), .inl (fun j => nI (Br j)))), (oe, .inl (cZ, (2 * 2 ^ n), .inl (fun j => bI (F j))))] := hw_ad hD rfl
    refine lv_iload_n hx hb dX0_judgeAll_2 rfl (lv_at hl 1 rfl) ?_
    refine lv_aload_n hx hb dX0_judgeAll_3 rfl (lv_at hl 0 rfl) ?_
    refine va_get (D := D) (ci := 0) (v := .ref ob) (C := RX0) (T := TX0) (N := 4) hx hb ht inX0 hown hK hP 0 rfl rfl 2 (by decide) (ht _ wf_X0_broken) (fun _ h9 => h9) rfl dX0_judgeAll_4 ?_
    refine va_alen (v := nI (2 ^ n)) hx hb hK hP 1 0 rfl rfl rfl dX0_judgeAll_7 ?_
    refine lv_icmp_ge (tgt := 43) hx hb dX0_judgeAll_8 rfl (fun hc => absurd (show 2 ^ n ≤ i from (nI_leI (by omega) (by omega)).mp hc) (by omega)) (fun _ => ?_)
    refine lv_aload_n hx hb dX0_judgeAll_11 rfl (lv_at hl 0 rfl) ?_
    refine va_get (D := D) (ci := 0) (v := .ref oe) (C := RX0) (T := TX0) (N := 4) hx hb ht inX0 hown hK hP 0 rfl rfl 3 (by decide) (ht _ wf_X0_eveWins) (fun _ h9 => h9) rfl dX0_judgeAll_12 ?_
    refine lv_aload_n hx hb dX0_judgeAll_15 rfl (lv_at hl 0 rfl) ?_
    refine va_get (D := D) (ci := 0) (v := .ref ob) (C := RX0) (T := TX0) (N := 4) hx hb ht inX0 hown hK hP 0 rfl rfl 2 (by decide) (ht _ wf_X0_broken) (fun _ h9 => h9) rfl dX0_judgeAll_16 ?_
    refine va_alen (v := nI (2 ^ n)) hx hb hK hP 1 0 rfl rfl rfl dX0_judgeAll_19 ?_
    refine lv_iload_n hx hb dX0_judgeAll_20 rfl (lv_at hl 1 rfl) ?_
    refine lv_iadd hx hb dX0_judgeAll_21 ?_
    refine lv_nm (y := nI ((2 ^ n) + i)) (nI_add _ _) ?_
    refine lv_aload_n hx hb dX0_judgeAll_22 rfl (lv_at hl 0 rfl) ?_
    refine va_get (D := D) (ci := 0) (v := .ref ob) (C := RX0) (T := TX0) (N := 4) hx hb ht inX0 hown hK hP 0 rfl rfl 2 (by decide) (ht _ wf_X0_broken) (fun _ h9 => h9) rfl dX0_judgeAll_23 ?_
    refine lv_iload_n hx hb dX0_judgeAll_26 rfl (lv_at hl 1 rfl) ?_
    refine na_nald (f := Br) hx hb hK hP 1 0 rfl rfl (j := i) (by omega) (by omega) dX0_judgeAll_27 ?_
    have hBl := hB i (by omega)
    suffices mk : W p l e (headSpec (kX0_judgeAll :: aW) { frames := 2, cells := 0, slots := 0, locals := 48 }).room s m (([.ref og] : List Value).toArray) below meth c H locs 0 0 (MQ below (wQ none D [(og, .inr (0, [.int (nI n), .int (nI a), .ref ob, .ref oe])), (ob, .inl (cI, (2 ^ n), .inl (fun j => nI (Br j)))), (oe, .inl (cZ, (2 * 2 ^ n), .inl (fun j => bI ((sd_ew n a (fun v => Br v == 0)) j))))] A) (([.ref og] : List Value).toArray) s 0 0 A) (F0 m 36 ls [.int (bI (Br i == 0)), .int (nI ((2 ^ n) + i)), .ref oe]) by
      refine lv_if_ne (tgt := 35) hx hb dX0_judgeAll_28 rfl (fun h1 => ?_) (fun h1 => ?_)
      · have h1 : ¬ Br i = 0 := fun h9 => h1 ((nI_z (by omega)).mpr h9)
        refine lv_iconst (v := nI 0) hx hb dX0_judgeAll_35 (by decide) ?_
        refine lv_nm (y := bI (Br i == 0)) (hw_0.trans (congrArg bI (show false = (Br i == 0) by first | exact (beq_iff_eq.mpr h1).symm | exact (beq_false_of_ne h1).symm))) ?_
        exact mk
      · have h1 : Br i = 0 := (nI_z (by omega)).mp h1
        refine lv_iconst (v := nI 1) hx hb dX0_judgeAll_31 (by decide) ?_
        refine lv_goto (tgt := 36) hx hb dX0_judgeAll_32 rfl ?_
        refine lv_nm (y := bI (Br i == 0)) (hw_1.trans (congrArg bI (show true = (Br i == 0) by first | exact (beq_iff_eq.mpr h1).symm | exact (beq_false_of_ne h1).symm))) ?_
        exact mk
    refine na_zast (f := F) (b := Br i == 0) hx hb hK hP hD hS 2 1 rfl rfl (j := (2 ^ n) + i) (by omega) (by omega) dX0_judgeAll_36 (fun H locs hP hD hS => ?_)
    have hP : va_P D clS [(og, .inr (0, [.int (nI n), .int (nI a), .ref ob, .ref oe])), (ob, .inl (cI, (2 ^ n), .inl (fun j => nI (Br j)))), (oe, .inl (cZ, (2 * 2 ^ n), .inl (fun j => bI ((va_up F ((2 ^ n) + i) (Br i == 0)) j))))] H := hP
    have hD : va_D A [(og, .inr (0, [.int (nI n), .int (nI a), .ref ob, .ref oe])), (ob, .inl (cI, (2 ^ n), .inl (fun j => nI (Br j)))), (oe, .inl (cZ, (2 * 2 ^ n), .inl (fun j => bI ((va_up F ((2 ^ n) + i) (Br i == 0)) j))))] := hD
    refine lv_iinc (k := 1) (v := nI (i + 1)) hx hb dX0_judgeAll_37 hl rfl (hw_inc _) (by decide) rfl (fun ls hl => ?_)
    have hl : lv_has ls 2 [(1, .int (nI (i + 1))), (0, .ref og)] := hl
    refine lv_goto (tgt := 2) hx hb dX0_judgeAll_40 rfl ?_
    have hl : lv_has ls 2 [(0, .ref og), (1, .int (nI (i + 1)))] := lv_sub hl [1, 0] rfl
    have hF2 : ∀ j, j < i + 1 → va_up F (2 ^ n + i) (Br i == 0) (2 ^ n + j) = (Br j == 0) := fun j hj => by
      by_cases hji : j = i
      · subst hji; exact va_up_self _ _ _
      · rw [va_up_ne _ _ (by omega)]; exact hF j (by omega)
    exact ih (i + 1) (va_up F (2 ^ n + i) (Br i == 0)) ls H locs (by omega) hF2 ((va_up_ne _ _ (by have h9 := Nat.two_pow_pos n; omega)).trans hF0) hl hP hS

set_option maxHeartbeats 4000000 in
set_option maxRecDepth 100000 in
theorem c_change (l : Launch) (D : va_G) (cI cZ : ClassId) (og ob oe n a : Nat) (y z sz : Nat) (st : Int32) (Br Bq : Nat → Nat) (f : Nat → Bool) (hn1 : 1 ≤ n) (hn : n ≤ 10) (ha : a < 2 ^ n) (hy : y < 2 ^ n) (hz : z < 2 ^ n) (hB : ∀ v, v < 2 ^ n → Br v < 2 ^ 31) (hBq2 : ∀ v, v < 2 ^ n → Bq v < 2 ^ 31) (hBq : ∀ v, v < 2 ^ n → (if sd_fl y z v = true then nI (Br v) + st else nI (Br v)) = nI (Bq v)) (hf0 : f 0 = false) : Met l yX0_change (kX0_change :: aW) { frames := 3, cells := 0, slots := 0, locals := 69 } (wPre [.ref og, .int (nI y), .int (nI z), .int st] D [(og, .inr (0, [.int (nI n), .int (nI a), .ref ob, .ref oe])), (ob, .inl (cI, (2 ^ n), .inl (fun j => nI (Br j)))), (oe, .inl (cZ, (2 * 2 ^ n), .inl (fun j => bI (f j))))] [(cI, .int), (cZ, .boolean)] sz) (wQ none D [(og, .inr (0, [.int (nI n), .int (nI a), .ref ob, .ref oe])), (ob, .inl (cI, (2 ^ n), .inl (fun j => nI (Bq j)))), (oe, .inl (cZ, (2 * 2 ^ n), .inl (fun j => bI ((sd_ew n a (fun v => Bq v == 0)) j))))] (va_A [(og, .inr (0, [.int (nI n), .int (nI a), .ref ob, .ref oe])), (ob, .inl (cI, (2 ^ n), .inl (fun j => nI (Br j)))), (oe, .inl (cZ, (2 * 2 ^ n), .inl (fun j => bI (f j))))] sz)) 0 0 (va_A [(og, .inr (0, [.int (nI n), .int (nI a), .ref ob, .ref oe])), (ob, .inl (cI, (2 ^ n), .inl (fun j => nI (Br j)))), (oe, .inl (cZ, (2 * 2 ^ n), .inl (fun j => bI (f j))))] sz) := by
  refine Met.ofW (cc := cX0_change) (maxL := 5) (ret := none) (by decide) rfl ?_
  intro p e s m args below meth c s₁ Bo hml hpre
  obtain ⟨rfl, hsz, hP, hK, hN, hD0⟩ := hpre
  subst hsz
  have hD := hD0.self (sz := s.heap.size)
  generalize hAe : va_A [(og, .inr (0, [.int (nI n), .int (nI a), .ref ob, .ref oe])), (ob, .inl (cI, (2 ^ n), .inl (fun j => nI (Br j)))), (oe, .inl (cZ, (2 * 2 ^ n), .inl (fun j => bI (f j))))] s.heap.size = A at hD ⊢
  have hA : ∀ q : Nat, s.heap.size ≤ q → A q := fun q h => by rw [← hAe]; exact Or.inr h
  have hS : va_S A s.heap s.heap [] := va_S.rf
  have hx := Bo.exec
  have hb := Bo.bytes
  have hr := Bo.returns
  have hts := atoms_spec (ws := kX0_change :: aW) Bo.pre
  have ht : ∀ w ∈ aW, w.before _ s = true := fun w h => hts w (List.mem_cons_of_mem _ h)
  have hown : s.vm.findClass RX0 = some m.cls := findClass_of_methodNamed Bo.named
  have hlocks := Bo.notSynchronized
  have hP : va_P D clS [(og, .inr (0, [.int (nI n), .int (nI a), .ref ob, .ref oe])), (ob, .inl (cI, (2 ^ n), .inl (fun j => nI (Br j)))), (oe, .inl (cZ, (2 * 2 ^ n), .inl (fun j => bI (f j))))] s.heap := hP
  have hl := lv_entry ([.ref og, .int (nI y), .int (nI z), .int st]) (n := 5) (Nat.le_of_ble_eq_true rfl)
  rw [lg_entry_eq]
  generalize (lg_sl ([.ref og, .int (nI y), .int (nI z), .int st]) ++ List.replicate (5 - (lg_sl ([.ref og, .int (nI y), .int (nI z), .int st])).length) Slot.unset).toArray = ls at hl ⊢
  have hl : lv_has ls 5 [(0, .ref og), (1, .int (nI y)), (2, .int (nI z)), (3, .int st)] := hl
  have h2n := hw_p10 hn
  refine lv_iconst (v := nI 0) hx hb dX0_change_0 (by decide) ?_
  refine lv_istore hx hb dX0_change_1 hl (by decide) rfl (fun ls hl => ?_)
  have hl : lv_has ls 5 [(4, .int (nI 0)), (0, .ref og), (1, .int (nI y)), (2, .int (nI z)), (3, .int st)] := hl
  have hl : lv_has ls 5 [(0, .ref og), (1, .int (nI y)), (2, .int (nI z)), (3, .int st), (4, .int (nI 0))] := lv_sub hl [1, 2, 3, 4, 0] rfl
  suffices lp : ∀ k : Nat, ∀ (i : Nat) (F : Nat → Nat) (ls : Array Slot) (H : Heap) (locs : List Loc), (i + k = 2 ^ n) → (∀ j, j < i → F j = Bq j) → (∀ j, i ≤ j → F j = Br j) → lv_has ls 5 [(0, .ref og), (1, .int (nI y)), (2, .int (nI z)), (3, .int st), (4, .int (nI i))] → va_P D clS [(og, .inr (0, [.int (nI n), .int (nI a), .ref ob, .ref oe])), (ob, .inl (cI, (2 ^ n), .inl (fun j => nI (F j)))), (oe, .inl (cZ, (2 * 2 ^ n), .inl (fun j => bI (f j))))] H → va_S A s.heap H locs → W p l e (headSpec (kX0_change :: aW) { frames := 3, cells := 0, slots := 0, locals := 69 }).room s m (([.ref og, .int (nI y), .int (nI z), .int st] : List Value).toArray) below meth c H locs 0 0 (MQ below (wQ none D [(og, .inr (0, [.int (nI n), .int (nI a), .ref ob, .ref oe])), (ob, .inl (cI, (2 ^ n), .inl (fun j => nI (Bq j)))), (oe, .inl (cZ, (2 * 2 ^ n), .inl (fun j => bI ((sd_ew n a (fun v => Bq v == 0)) j))))] A) (([.ref og, .int (nI y), .int (nI z), .int st] : List Value).toArray) s 0 0 A) (F0 m 3 ls []) by
    exact lp (2 ^ n) 0 Br ls s.heap [] (by omega) (fun j hj => by omega) (fun j _ => rfl) hl hP hS
  intro k
  induction k with
  | zero =>
    intro i F ls H locs hi hF1 hF2 hl hP hS
    have hD : va_D A [(og, .inr (0, [.int (nI n), .int (nI a), .ref ob, .ref oe])), (ob, .inl (cI, (2 ^ n), .inl (fun j => nI (F j)))), (oe, .inl (cZ, (2 * 2 ^ n), .inl (fun j => bI (f j))))] := hw_ad hD rfl
    refine lv_iload hx hb dX0_change_3 (lv_at hl 4 rfl) ?_
    refine lv_aload_n hx hb dX0_change_5 rfl (lv_at hl 0 rfl) ?_
    refine va_get (D := D) (ci := 0) (v := .ref ob) (C := RX0) (T := TX0) (N := 4) hx hb ht inX0 hown hK hP 0 rfl rfl 2 (by decide) (ht _ wf_X0_broken) (fun _ h9 => h9) rfl dX0_change_6 ?_
    refine va_alen (v := nI (2 ^ n)) hx hb hK hP 1 0 rfl rfl rfl dX0_change_9 ?_
    refine lv_icmp_ge (tgt := 45) hx hb dX0_change_10 rfl (fun _ => ?_) (fun hc => absurd (show ¬ (2 ^ n ≤ i) from fun h9 => hc ((nI_leI (by omega) (by omega)).mpr h9)) (by omega))
    have hP : va_P D clS [(og, .inr (0, [.int (nI n), .int (nI a), .ref ob, .ref oe])), (ob, .inl (cI, (2 ^ n), .inl (fun j => nI (Bq j)))), (oe, .inl (cZ, (2 * 2 ^ n), .inl (fun j => bI (f j))))] H := hw_cgn hP Bq (q0 := 1) rfl (fun j hj => hF1 j (by omega)) rfl
    have hD : va_D A [(og, .inr (0, [.int (nI n), .int (nI a), .ref ob, .ref oe])), (ob, .inl (cI, (2 ^ n), .inl (fun j => nI (Bq j)))), (oe, .inl (cZ, (2 * 2 ^ n), .inl (fun j => bI (f j))))] := hw_ad hD rfl
    refine lv_aload_n hx hb dX0_change_45 rfl (lv_at hl 0 rfl) ?_
    refine hw_callW (ws' := [(og, .inr (0, [.int (nI n), .int (nI a), .ref ob, .ref oe])), (ob, .inl (cI, (2 ^ n), .inl (fun j => nI (Bq j)))), (oe, .inl (cZ, (2 * 2 ^ n), .inl (fun j => bI ((sd_ew n a (fun v => Bq v == 0)) j))))]) (va_runV (b := og) (As := []) (rest := []) ⟨hx, hb, hml, hown, ht⟩ (c_judgeAll l D cI cZ og ob oe n a H.size Bq f hn1 hn ha hBq2 hf0) (cwV 0 ht (gV wm_X0_X0_judgeAll wi_X0_judgeAll ws_X0_judgeAll wn_X0 wc_X0_judgeAll) rfl rfl rfl (by decide +kernel) ⟨Nat.le_of_ble_eq_true rfl, Nat.le_of_ble_eq_true rfl⟩) (wPre_V 0 hP hD hK hN rfl rfl) rfl rfl hl.1 rfl (lv_room (Nat.le_of_ble_eq_true rfl)) dX0_change_46 ⟨Nat.zero_le _, Nat.zero_le _⟩) hD hS hA rfl (fun H locs hP hD hS => ?_)
    have hP : va_P D clS [(og, .inr (0, [.int (nI n), .int (nI a), .ref ob, .ref oe])), (ob, .inl (cI, (2 ^ n), .inl (fun j => nI (Bq j)))), (oe, .inl (cZ, (2 * 2 ^ n), .inl (fun j => bI ((sd_ew n a (fun v => Bq v == 0)) j))))] H := hP
    have hD : va_D A [(og, .inr (0, [.int (nI n), .int (nI a), .ref ob, .ref oe])), (ob, .inl (cI, (2 ^ n), .inl (fun j => nI (Bq j)))), (oe, .inl (cZ, (2 * 2 ^ n), .inl (fun j => bI ((sd_ew n a (fun v => Bq v == 0)) j))))] := hD
    refine W.eq (g2 := F0 m 49 ls []) rfl ?_
    exact W.vret hx hb hr (fun t ht2 _ => ⟨rfl, by rw [ht2]; exact hP, hS.F ht2⟩) hS.2.2 dX0_change_49
  | succ k ih =>
    intro i F ls H locs hi hF1 hF2 hl hP hS
    have hD : va_D A [(og, .inr (0, [.int (nI n), .int (nI a), .ref ob, .ref oe])), (ob, .inl (cI, (2 ^ n), .inl (fun j => nI (F j)))), (oe, .inl (cZ, (2 * 2 ^ n), .inl (fun j => bI (f j))))] := hw_ad hD rfl
    refine lv_iload hx hb dX0_change_3 (lv_at hl 4 rfl) ?_
    refine lv_aload_n hx hb dX0_change_5 rfl (lv_at hl 0 rfl) ?_
    refine va_get (D := D) (ci := 0) (v := .ref ob) (C := RX0) (T := TX0) (N := 4) hx hb ht inX0 hown hK hP 0 rfl rfl 2 (by decide) (ht _ wf_X0_broken) (fun _ h9 => h9) rfl dX0_change_6 ?_
    refine va_alen (v := nI (2 ^ n)) hx hb hK hP 1 0 rfl rfl rfl dX0_change_9 ?_
    refine lv_icmp_ge (tgt := 45) hx hb dX0_change_10 rfl (fun hc => absurd (show 2 ^ n ≤ i from (nI_leI (by omega) (by omega)).mp hc) (by omega)) (fun _ => ?_)
    refine lv_iload hx hb dX0_change_13 (lv_at hl 4 rfl) ?_
    refine lv_iload_n hx hb dX0_change_15 rfl (lv_at hl 1 rfl) ?_
    refine lv_iand hx hb dX0_change_16 ?_
    refine lv_nm (y := nI (i &&& y)) (hw_and _ _) ?_
    have hFi := hF2 i (Nat.le_refl i)
    have hBi := hBq i (by omega)
    have hand1 : i &&& y < 2 ^ 31 := Nat.lt_of_le_of_lt Nat.and_le_left (by omega)
    have hand2 : i &&& z < 2 ^ 31 := Nat.lt_of_le_of_lt Nat.and_le_left (by omega)
    refine lv_if_ne (tgt := 39) hx hb dX0_change_17 rfl (fun h1 => ?_) (fun h1 => ?_)
    · have h1 : ¬ i &&& y = 0 := fun h9 => h1 ((nI_z (by omega)).mpr h9)
      have hno : Br i = Bq i := sd_no hBi (hB i (by omega)) (hBq2 i (by omega)) (by unfold sd_fl; rw [beq_false_of_ne h1, Bool.false_and])
      refine lv_iinc (k := 4) (v := nI (i + 1)) hx hb dX0_change_39 hl rfl (hw_inc _) (by decide) rfl (fun ls hl => ?_)
      have hl : lv_has ls 5 [(4, .int (nI (i + 1))), (0, .ref og), (1, .int (nI y)), (2, .int (nI z)), (3, .int st)] := hl
      refine lv_goto (tgt := 3) hx hb dX0_change_42 rfl ?_
      have hl : lv_has ls 5 [(0, .ref og), (1, .int (nI y)), (2, .int (nI z)), (3, .int st), (4, .int (nI (i + 1)))] := lv_sub hl [1, 2, 3, 4, 0] rfl
      exact ih (i + 1) F ls H locs (by omega) (fun j hj => (Nat.lt_or_ge j i).elim (hF1 j) (fun h9 => by obtain rfl : j = i := (by omega); rw [hFi]; exact hno)) (fun j hj => hF2 j (by omega)) hl hP hS
    · have h1 : i &&& y = 0 := (nI_z (by omega)).mp h1
      refine lv_iload hx hb dX0_change_20 (lv_at hl 4 rfl) ?_
      refine lv_iload_n hx hb dX0_change_22 rfl (lv_at hl 2 rfl) ?_
      refine lv_iand hx hb dX0_change_23 ?_
      refine lv_nm (y := nI (i &&& z)) (hw_and _ _) ?_
      refine lv_iload_n hx hb dX0_change_24 rfl (lv_at hl 2 rfl) ?_
      refine lv_icmp_ne (tgt := 39) hx hb dX0_change_25 rfl (fun h2 => ?_) (fun h2 => ?_)
      · have h2 : ¬ (i &&& z = z) := fun h9 => h2 ((nI_eq (by omega) (by omega)).mpr h9)
        have hno : Br i = Bq i := sd_no hBi (hB i (by omega)) (hBq2 i (by omega)) (by unfold sd_fl; rw [beq_false_of_ne h2, Bool.and_false])
        refine lv_iinc (k := 4) (v := nI (i + 1)) hx hb dX0_change_39 hl rfl (hw_inc _) (by decide) rfl (fun ls hl => ?_)
        have hl : lv_has ls 5 [(4, .int (nI (i + 1))), (0, .ref og), (1, .int (nI y)), (2, .int (nI z)), (3, .int st)] := hl
        refine lv_goto (tgt := 3) hx hb dX0_change_42 rfl ?_
        have hl : lv_has ls 5 [(0, .ref og), (1, .int (nI y)), (2, .int (nI z)), (3, .int st), (4, .int (nI (i + 1)))] := lv_sub hl [1, 2, 3, 4, 0] rfl
        exact ih (i + 1) F ls H locs (by omega) (fun j hj => (Nat.lt_or_ge j i).elim (hF1 j) (fun h9 => by obtain rfl : j = i := (by omega); rw [hFi]; exact hno)) (fun j hj => hF2 j (by omega)) hl hP hS
      · have h2 : i &&& z = z := (nI_eq (by omega) (by omega)).mp h2
        refine lv_aload_n hx hb dX0_change_28 rfl (lv_at hl 0 rfl) ?_
        refine va_get (D := D) (ci := 0) (v := .ref ob) (C := RX0) (T := TX0) (N := 4) hx hb ht inX0 hown hK hP 0 rfl rfl 2 (by decide) (ht _ wf_X0_broken) (fun _ h9 => h9) rfl dX0_change_29 ?_
        refine lv_iload hx hb dX0_change_32 (lv_at hl 4 rfl) ?_
        refine lv_dup2_11 hx hb dX0_change_34 rfl rfl ?_
        refine na_nald (f := F) hx hb hK hP 1 0 rfl rfl (j := i) (by omega) (by omega) dX0_change_35 ?_
        refine lv_iload_n hx hb dX0_change_36 rfl (lv_at hl 3 rfl) ?_
        refine lv_iadd hx hb dX0_change_37 ?_
        refine lv_nm (y := nI (Bq i)) (by rw [hFi]; exact sd_yes hBi (by unfold sd_fl; rw [h1, h2]; exact (by simp))) ?_
        refine na_nast (f := F) (x := Bq i) hx hb hK hP hD hS 1 0 rfl rfl (j := i) (by omega) (by omega) dX0_change_38 (fun H locs hP hD hS => ?_)
        have hP : va_P D clS [(og, .inr (0, [.int (nI n), .int (nI a), .ref ob, .ref oe])), (ob, .inl (cI, (2 ^ n), .inl (fun j => nI ((va_up F i (Bq i)) j)))), (oe, .inl (cZ, (2 * 2 ^ n), .inl (fun j => bI (f j))))] H := hP
        have hD : va_D A [(og, .inr (0, [.int (nI n), .int (nI a), .ref ob, .ref oe])), (ob, .inl (cI, (2 ^ n), .inl (fun j => nI ((va_up F i (Bq i)) j)))), (oe, .inl (cZ, (2 * 2 ^ n), .inl (fun j => bI (f j))))] := hD
        refine lv_iinc (k := 4) (v := nI (i + 1)) hx hb dX0_change_39 hl rfl (hw_inc _) (by decide) rfl (fun ls hl => ?_)
        have hl : lv_has ls 5 [(4, .int (nI (i + 1))), (0, .ref og), (1, .int (nI y)), (2, .int (nI z)), (3, .int st)] := hl
        refine lv_goto (tgt := 3) hx hb dX0_change_42 rfl ?_
        have hl : lv_has ls 5 [(0, .ref og), (1, .int (nI y)), (2, .int (nI z)), (3, .int st), (4, .int (nI (i + 1)))] := lv_sub hl [1, 2, 3, 4, 0] rfl
        exact ih (i + 1) (va_up F i (Bq i)) ls H locs (by omega) (fun j hj => (Nat.lt_or_ge j i).elim (fun h9 => (va_up_ne _ _ (by omega)).trans (hF1 j h9)) (fun h9 => by obtain rfl : j = i := (by omega); exact va_up_self _ _ _)) (fun j hj => (va_up_ne _ _ (by omega)).trans (hF2 j (by omega))) hl hP hS
end
section
/-! Contracts of StrategyDesk. -/
def dOk (n a q d v : Nat) (Y Z : Nat → Nat) : Prop := 1 ≤ n ∧ n ≤ 10 ∧ a < 2 ^ n ∧ sd_ct a n ≤ 5 ∧ q ≤ 24 ∧ (∀ j, Y j < 2 ^ n) ∧ (∀ j, Z j < 2 ^ n) ∧ d ≤ n ∧ v < 2 ^ d
theorem hw_set_t {y z : Int32} {n : Nat} (h : uN (y ||| z) / 2 ^ n = 0) : true = (decide (uN y < 2 ^ n) && decide (uN z < 2 ^ n)) := by
  rw [uN_or, hw_sets] at h
  rw [decide_eq_true h.1, decide_eq_true h.2]
  rfl
theorem hw_set_f {y z : Int32} {n : Nat} (h : ¬ uN (y ||| z) / 2 ^ n = 0) : false = (decide (uN y < 2 ^ n) && decide (uN z < 2 ^ n)) := by
  rw [uN_or, hw_sets] at h
  by_cases h1 : uN y < 2 ^ n
  · rw [decide_eq_false (p := uN z < 2 ^ n) (fun h2 => h ⟨h1, h2⟩), Bool.and_false]
  · rw [decide_eq_false h1, Bool.false_and]
theorem sd_ev {n a w : Nat} (ha : a < 2 ^ n) (hw : w < n) : (2 ^ n - 1 - a).testBit w = !a.testBit w := by
  rw [show 2 ^ n - 1 - a = 2 ^ n - (a + 1) by omega, Nat.testBit_two_pow_sub_succ ha, decide_eq_true hw, Bool.true_and]
theorem sd_ct_mod {a w : Nat} (hw : w ≤ 10) : sd_ct (a % 2 ^ w) 10 = sd_ct a w := by
  have h : ∀ k, sd_ct (a % 2 ^ w) (w + k) = sd_ct a w := by
    intro k
    induction k with
    | zero =>
      apply sd_ct_cg
      intro i hi
      rw [Nat.testBit_mod_two_pow, decide_eq_true (show i < w from hi), Bool.true_and]
    | succ k ih =>
      show sd_ct (a % 2 ^ w) (w + k) + ((a % 2 ^ w).testBit (w + k)).toNat = _
      rw [ih, Nat.testBit_mod_two_pow, decide_eq_false (by omega), Bool.false_and]
      rfl
  have h2 := h (10 - w)
  rwa [show w + (10 - w) = 10 by omega] at h2
/-- the values that valuesWithBest gathers -/
def sd_vb (n a : Nat) (S : Nat → Bool) (mv td : Nat) : Nat → Nat → Bool := fun d x => if mv.testBit d = true then sd_bm n a S d x else td.testBit d
def bc1 (x : Int32) : Int32 := x - ((x.toUInt32 >>> ((nI 1).toUInt32 &&& Int32.toUInt32 31)).toInt32 &&& (1431655765 : Int32))
def bc2 (x : Int32) : Int32 := (x &&& (858993459 : Int32)) + ((x.toUInt32 >>> ((nI 2).toUInt32 &&& Int32.toUInt32 31)).toInt32 &&& (858993459 : Int32))
def bc3 (x : Int32) : Int32 := (x + (x.toUInt32 >>> ((nI 4).toUInt32 &&& Int32.toUInt32 31)).toInt32) &&& (252645135 : Int32)
def bc4 (x : Int32) : Int32 := x + (x.toUInt32 >>> ((nI 8).toUInt32 &&& Int32.toUInt32 31)).toInt32
def bc5 (x : Int32) : Int32 := x + (x.toUInt32 >>> ((nI 16).toUInt32 &&& Int32.toUInt32 31)).toInt32
def bc6 (x : Int32) : Int32 := x &&& nI 63
theorem bc_ok : ∀ x, x < 1024 → bc6 (bc5 (bc4 (bc3 (bc2 (bc1 (nI x)))))) = nI (sd_ct x 10) := by decide +kernel

set_option maxHeartbeats 4000000 in
set_option maxRecDepth 100000 in
theorem c_bitCount (l : Launch) (D : va_G) (cI cZ : ClassId) (x : Nat) (hx9 : x < 1024) : Met l yJ6_bitCount (kJ6_bitCount :: aW) { frames := 0, cells := 0, slots := 0, locals := 0 } (rPre [.int (nI x)] D [] [(cI, .int), (cZ, .boolean)]) (QcRead (nI (sd_ct x 10))) 0 0 (fun _ => False) := by
  refine Met.ofW (cc := cJ6_bitCount) (maxL := 1) (ret := (some .int)) (by decide) rfl ?_
  intro p e s m args below meth c s₁ Bo hml hpre
  obtain ⟨rfl, hP, hK, hN⟩ := hpre
  have hx := Bo.exec
  have hb := Bo.bytes
  have hr := Bo.returns
  have hts := atoms_spec (ws := kJ6_bitCount :: aW) Bo.pre
  have ht : ∀ w ∈ aW, w.before _ s = true := fun w h => hts w (List.mem_cons_of_mem _ h)
  have hown : s.vm.findClass RJ6 = some m.cls := findClass_of_methodNamed Bo.named
  have hlocks := Bo.notSynchronized
  have hP : va_P D clS [] s.heap := hP
  have hl := lv_entry ([.int (nI x)]) (n := 1) (Nat.le_of_ble_eq_true rfl)
  rw [lg_entry_eq]
  generalize (lg_sl ([.int (nI x)]) ++ List.replicate (1 - (lg_sl ([.int (nI x)])).length) Slot.unset).toArray = ls at hl ⊢
  have hl : lv_has ls 1 [(0, .int (nI x))] := hl
  refine lv_iload_n hx hb dJ6_bitCount_0 rfl (lv_at hl 0 rfl) ?_
  refine lv_iload_n hx hb dJ6_bitCount_1 rfl (lv_at hl 0 rfl) ?_
  refine lv_iconst (v := nI 1) hx hb dJ6_bitCount_2 (by decide) ?_
  refine lv_iushr hx hb dJ6_bitCount_3 rfl ?_
  refine lv_ldcw (v := 1431655765) hx hb hown (ht _ wq_J6_265) dJ6_bitCount_4 ?_
  refine lv_iand hx hb dJ6_bitCount_7 ?_
  refine lv_isub hx hb dJ6_bitCount_8 ?_
  refine lv_nm (y := bc1 (nI x)) (rfl) ?_
  refine lv_istore_n hx hb dJ6_bitCount_9 rfl hl (by decide) rfl (fun ls hl => ?_)
  have hl : lv_has ls 1 [(0, .int (bc1 (nI x)))] := hl
  refine lv_iload_n hx hb dJ6_bitCount_10 rfl (lv_at hl 0 rfl) ?_
  refine lv_ldcw (v := 858993459) hx hb hown (ht _ wq_J6_266) dJ6_bitCount_11 ?_
  refine lv_iand hx hb dJ6_bitCount_14 ?_
  refine lv_iload_n hx hb dJ6_bitCount_15 rfl (lv_at hl 0 rfl) ?_
  refine lv_iconst (v := nI 2) hx hb dJ6_bitCount_16 (by decide) ?_
  refine lv_iushr hx hb dJ6_bitCount_17 rfl ?_
  refine lv_ldcw (v := 858993459) hx hb hown (ht _ wq_J6_266) dJ6_bitCount_18 ?_
  refine lv_iand hx hb dJ6_bitCount_21 ?_
  refine lv_iadd hx hb dJ6_bitCount_22 ?_
  refine lv_nm (y := bc2 (bc1 (nI x))) (rfl) ?_
  refine lv_istore_n hx hb dJ6_bitCount_23 rfl hl (by decide) rfl (fun ls hl => ?_)
  have hl : lv_has ls 1 [(0, .int (bc2 (bc1 (nI x))))] := hl
  refine lv_iload_n hx hb dJ6_bitCount_24 rfl (lv_at hl 0 rfl) ?_
  refine lv_iload_n hx hb dJ6_bitCount_25 rfl (lv_at hl 0 rfl) ?_
  refine lv_iconst (v := nI 4) hx hb dJ6_bitCount_26 (by decide) ?_
  refine lv_iushr hx hb dJ6_bitCount_27 rfl ?_
  refine lv_iadd hx hb dJ6_bitCount_28 ?_
  refine lv_ldcw (v := 252645135) hx hb hown (ht _ wq_J6_267) dJ6_bitCount_29 ?_
  refine lv_iand hx hb dJ6_bitCount_32 ?_
  refine lv_nm (y := bc3 (bc2 (bc1 (nI x)))) (rfl) ?_
  refine lv_istore_n hx hb dJ6_bitCount_33 rfl hl (by decide) rfl (fun ls hl => ?_)
  have hl : lv_has ls 1 [(0, .int (bc3 (bc2 (bc1 (nI x)))))] := hl
  refine lv_iload_n hx hb dJ6_bitCount_34 rfl (lv_at hl 0 rfl) ?_
  refine lv_iload_n hx hb dJ6_bitCount_35 rfl (lv_at hl 0 rfl) ?_
  refine lv_bipush (v := nI 8) hx hb dJ6_bitCount_36 (by decide) ?_
  refine lv_iushr hx hb dJ6_bitCount_38 rfl ?_
  refine lv_iadd hx hb dJ6_bitCount_39 ?_
  refine lv_nm (y := bc4 (bc3 (bc2 (bc1 (nI x))))) (rfl) ?_
  refine lv_istore_n hx hb dJ6_bitCount_40 rfl hl (by decide) rfl (fun ls hl => ?_)
  have hl : lv_has ls 1 [(0, .int (bc4 (bc3 (bc2 (bc1 (nI x))))))] := hl
  refine lv_iload_n hx hb dJ6_bitCount_41 rfl (lv_at hl 0 rfl) ?_
  refine lv_iload_n hx hb dJ6_bitCount_42 rfl (lv_at hl 0 rfl) ?_
  refine lv_bipush (v := nI 16) hx hb dJ6_bitCount_43 (by decide) ?_
  refine lv_iushr hx hb dJ6_bitCount_45 rfl ?_
  refine lv_iadd hx hb dJ6_bitCount_46 ?_
  refine lv_nm (y := bc5 (bc4 (bc3 (bc2 (bc1 (nI x)))))) (rfl) ?_
  refine lv_istore_n hx hb dJ6_bitCount_47 rfl hl (by decide) rfl (fun ls hl => ?_)
  have hl : lv_has ls 1 [(0, .int (bc5 (bc4 (bc3 (bc2 (bc1 (nI x)))))))] := hl
  refine lv_iload_n hx hb dJ6_bitCount_48 rfl (lv_at hl 0 rfl) ?_
  refine lv_bipush (v := nI 63) hx hb dJ6_bitCount_49 (by decide) ?_
  refine lv_iand hx hb dJ6_bitCount_51 ?_
  refine lv_nm (y := bc6 (bc5 (bc4 (bc3 (bc2 (bc1 (nI x))))))) (rfl) ?_
  exact W.iret hx hb hr (fun t ht2 _ => ⟨hw_ret (bc_ok x hx9), ht2⟩) (fun _ h => by cases h) dJ6_bitCount_52

set_option maxHeartbeats 4000000 in
set_option maxRecDepth 100000 in
theorem c_variables (l : Launch) (D : va_G) (cI cZ : ClassId) (od og ob oe oy oz ot n a q d v : Nat) (Y Z : Nat → Nat) (T : Nat → Int32) (ok : dOk n a q d v Y Z) : Met l yX1_variables (kX1_variables :: aW) { frames := 0, cells := 0, slots := 0, locals := 0 } (rPre [.ref od] D [(od, .inr (1, [.int (nI n), .int (nI a), .int (nI (2 ^ n - 1 - a)), .ref og, .ref oy, .ref oz, .int (nI q), .int (nI d), .int (nI v), .ref ot])), (og, .inr (0, [.int (nI n), .int (nI a), .ref ob, .ref oe])), (ob, .inl (cI, (2 ^ n), .inl (fun j => nI ((sd_br Y Z q) j)))), (oe, .inl (cZ, (2 * 2 ^ n), .inl (fun j => bI ((sd_ew n a (fun w => sd_br Y Z q w == 0)) j)))), (oy, .inl (cI, 24, .inl (fun j => nI (Y j)))), (oz, .inl (cI, 24, .inl (fun j => nI (Z j)))), (ot, .inl (cI, n, .inl T))] [(cI, .int), (cZ, .boolean)]) (QcRead (nI n)) 0 0 (fun _ => False) := by
  obtain ⟨hn1, hn, ha, h5, hq, hY, hZ, hd, hv⟩ := id ok
  have h2n := hw_p10 hn
  refine Met.ofW (cc := cX1_variables) (maxL := 1) (ret := (some .int)) (by decide) rfl ?_
  intro p e s m args below meth c s₁ Bo hml hpre
  obtain ⟨rfl, hP, hK, hN⟩ := hpre
  have hx := Bo.exec
  have hb := Bo.bytes
  have hr := Bo.returns
  have hts := atoms_spec (ws := kX1_variables :: aW) Bo.pre
  have ht : ∀ w ∈ aW, w.before _ s = true := fun w h => hts w (List.mem_cons_of_mem _ h)
  have hown : s.vm.findClass RX1 = some m.cls := findClass_of_methodNamed Bo.named
  have hlocks := Bo.notSynchronized
  have hP : va_P D clS [(od, .inr (1, [.int (nI n), .int (nI a), .int (nI (2 ^ n - 1 - a)), .ref og, .ref oy, .ref oz, .int (nI q), .int (nI d), .int (nI v), .ref ot])), (og, .inr (0, [.int (nI n), .int (nI a), .ref ob, .ref oe])), (ob, .inl (cI, (2 ^ n), .inl (fun j => nI ((sd_br Y Z q) j)))), (oe, .inl (cZ, (2 * 2 ^ n), .inl (fun j => bI ((sd_ew n a (fun w => sd_br Y Z q w == 0)) j)))), (oy, .inl (cI, 24, .inl (fun j => nI (Y j)))), (oz, .inl (cI, 24, .inl (fun j => nI (Z j)))), (ot, .inl (cI, n, .inl T))] s.heap := hP
  have hl := lv_entry ([.ref od]) (n := 1) (Nat.le_of_ble_eq_true rfl)
  rw [lg_entry_eq]
  generalize (lg_sl ([.ref od]) ++ List.replicate (1 - (lg_sl ([.ref od])).length) Slot.unset).toArray = ls at hl ⊢
  have hl : lv_has ls 1 [(0, .ref od)] := hl
  refine lv_aload_n hx hb dX1_variables_0 rfl (lv_at hl 0 rfl) ?_
  refine va_get (D := D) (ci := 1) (v := .int (nI n)) (C := RX1) (T := TX1) (N := 10) hx hb ht inX1 hown hK hP 0 rfl rfl 0 (by decide) (ht _ wf_X1_size) (fun _ h9 => h9) rfl dX1_variables_1 ?_
  exact W.iret hx hb hr (fun t ht2 _ => ⟨hw_ret (rfl), ht2⟩) (fun _ h => by cases h) dX1_variables_4

set_option maxHeartbeats 4000000 in
set_option maxRecDepth 100000 in
theorem c_adams (l : Launch) (D : va_G) (cI cZ : ClassId) (od og ob oe oy oz ot n a q d v : Nat) (Y Z : Nat → Nat) (T : Nat → Int32) (ok : dOk n a q d v Y Z) : Met l yX1_adams (kX1_adams :: aW) { frames := 0, cells := 0, slots := 0, locals := 0 } (rPre [.ref od] D [(od, .inr (1, [.int (nI n), .int (nI a), .int (nI (2 ^ n - 1 - a)), .ref og, .ref oy, .ref oz, .int (nI q), .int (nI d), .int (nI v), .ref ot])), (og, .inr (0, [.int (nI n), .int (nI a), .ref ob, .ref oe])), (ob, .inl (cI, (2 ^ n), .inl (fun j => nI ((sd_br Y Z q) j)))), (oe, .inl (cZ, (2 * 2 ^ n), .inl (fun j => bI ((sd_ew n a (fun w => sd_br Y Z q w == 0)) j)))), (oy, .inl (cI, 24, .inl (fun j => nI (Y j)))), (oz, .inl (cI, 24, .inl (fun j => nI (Z j)))), (ot, .inl (cI, n, .inl T))] [(cI, .int), (cZ, .boolean)]) (QcRead (nI a)) 0 0 (fun _ => False) := by
  obtain ⟨hn1, hn, ha, h5, hq, hY, hZ, hd, hv⟩ := id ok
  have h2n := hw_p10 hn
  refine Met.ofW (cc := cX1_adams) (maxL := 1) (ret := (some .int)) (by decide) rfl ?_
  intro p e s m args below meth c s₁ Bo hml hpre
  obtain ⟨rfl, hP, hK, hN⟩ := hpre
  have hx := Bo.exec
  have hb := Bo.bytes
  have hr := Bo.returns
  have hts := atoms_spec (ws := kX1_adams :: aW) Bo.pre
  have ht : ∀ w ∈ aW, w.before _ s = true := fun w h => hts w (List.mem_cons_of_mem _ h)
  have hown : s.vm.findClass RX1 = some m.cls := findClass_of_methodNamed Bo.named
  have hlocks := Bo.notSynchronized
  have hP : va_P D clS [(od, .inr (1, [.int (nI n), .int (nI a), .int (nI (2 ^ n - 1 - a)), .ref og, .ref oy, .ref oz, .int (nI q), .int (nI d), .int (nI v), .ref ot])), (og, .inr (0, [.int (nI n), .int (nI a), .ref ob, .ref oe])), (ob, .inl (cI, (2 ^ n), .inl (fun j => nI ((sd_br Y Z q) j)))), (oe, .inl (cZ, (2 * 2 ^ n), .inl (fun j => bI ((sd_ew n a (fun w => sd_br Y Z q w == 0)) j)))), (oy, .inl (cI, 24, .inl (fun j => nI (Y j)))), (oz, .inl (cI, 24, .inl (fun j => nI (Z j)))), (ot, .inl (cI, n, .inl T))] s.heap := hP
  have hl := lv_entry ([.ref od]) (n := 1) (Nat.le_of_ble_eq_true rfl)
  rw [lg_entry_eq]
  generalize (lg_sl ([.ref od]) ++ List.replicate (1 - (lg_sl ([.ref od])).length) Slot.unset).toArray = ls at hl ⊢
  have hl : lv_has ls 1 [(0, .ref od)] := hl
  refine lv_aload_n hx hb dX1_adams_0 rfl (lv_at hl 0 rfl) ?_
  refine va_get (D := D) (ci := 1) (v := .int (nI a)) (C := RX1) (T := TX1) (N := 10) hx hb ht inX1 hown hK hP 0 rfl rfl 1 (by decide) (ht _ wf_X1_adamSet) (fun _ h9 => h9) rfl dX1_adams_1 ?_
  exact W.iret hx hb hr (fun t ht2 _ => ⟨hw_ret (rfl), ht2⟩) (fun _ h => by cases h) dX1_adams_4

set_option maxHeartbeats 4000000 in
set_option maxRecDepth 100000 in
theorem c_clauses (l : Launch) (D : va_G) (cI cZ : ClassId) (od og ob oe oy oz ot n a q d v : Nat) (Y Z : Nat → Nat) (T : Nat → Int32) (ok : dOk n a q d v Y Z) : Met l yX1_clauses (kX1_clauses :: aW) { frames := 0, cells := 0, slots := 0, locals := 0 } (rPre [.ref od] D [(od, .inr (1, [.int (nI n), .int (nI a), .int (nI (2 ^ n - 1 - a)), .ref og, .ref oy, .ref oz, .int (nI q), .int (nI d), .int (nI v), .ref ot])), (og, .inr (0, [.int (nI n), .int (nI a), .ref ob, .ref oe])), (ob, .inl (cI, (2 ^ n), .inl (fun j => nI ((sd_br Y Z q) j)))), (oe, .inl (cZ, (2 * 2 ^ n), .inl (fun j => bI ((sd_ew n a (fun w => sd_br Y Z q w == 0)) j)))), (oy, .inl (cI, 24, .inl (fun j => nI (Y j)))), (oz, .inl (cI, 24, .inl (fun j => nI (Z j)))), (ot, .inl (cI, n, .inl T))] [(cI, .int), (cZ, .boolean)]) (QcRead (nI q)) 0 0 (fun _ => False) := by
  obtain ⟨hn1, hn, ha, h5, hq, hY, hZ, hd, hv⟩ := id ok
  have h2n := hw_p10 hn
  refine Met.ofW (cc := cX1_clauses) (maxL := 1) (ret := (some .int)) (by decide) rfl ?_
  intro p e s m args below meth c s₁ Bo hml hpre
  obtain ⟨rfl, hP, hK, hN⟩ := hpre
  have hx := Bo.exec
  have hb := Bo.bytes
  have hr := Bo.returns
  have hts := atoms_spec (ws := kX1_clauses :: aW) Bo.pre
  have ht : ∀ w ∈ aW, w.before _ s = true := fun w h => hts w (List.mem_cons_of_mem _ h)
  have hown : s.vm.findClass RX1 = some m.cls := findClass_of_methodNamed Bo.named
  have hlocks := Bo.notSynchronized
  have hP : va_P D clS [(od, .inr (1, [.int (nI n), .int (nI a), .int (nI (2 ^ n - 1 - a)), .ref og, .ref oy, .ref oz, .int (nI q), .int (nI d), .int (nI v), .ref ot])), (og, .inr (0, [.int (nI n), .int (nI a), .ref ob, .ref oe])), (ob, .inl (cI, (2 ^ n), .inl (fun j => nI ((sd_br Y Z q) j)))), (oe, .inl (cZ, (2 * 2 ^ n), .inl (fun j => bI ((sd_ew n a (fun w => sd_br Y Z q w == 0)) j)))), (oy, .inl (cI, 24, .inl (fun j => nI (Y j)))), (oz, .inl (cI, 24, .inl (fun j => nI (Z j)))), (ot, .inl (cI, n, .inl T))] s.heap := hP
  have hl := lv_entry ([.ref od]) (n := 1) (Nat.le_of_ble_eq_true rfl)
  rw [lg_entry_eq]
  generalize (lg_sl ([.ref od]) ++ List.replicate (1 - (lg_sl ([.ref od])).length) Slot.unset).toArray = ls at hl ⊢
  have hl : lv_has ls 1 [(0, .ref od)] := hl
  refine lv_aload_n hx hb dX1_clauses_0 rfl (lv_at hl 0 rfl) ?_
  refine va_get (D := D) (ci := 1) (v := .int (nI q)) (C := RX1) (T := TX1) (N := 10) hx hb ht inX1 hown hK hP 0 rfl rfl 6 (by decide) (ht _ wf_X1_clauseCount) (fun _ h9 => h9) rfl dX1_clauses_1 ?_
  exact W.iret hx hb hr (fun t ht2 _ => ⟨hw_ret (rfl), ht2⟩) (fun _ h => by cases h) dX1_clauses_4

set_option maxHeartbeats 4000000 in
set_option maxRecDepth 100000 in
theorem c_played (l : Launch) (D : va_G) (cI cZ : ClassId) (od og ob oe oy oz ot n a q d v : Nat) (Y Z : Nat → Nat) (T : Nat → Int32) (ok : dOk n a q d v Y Z) : Met l yX1_played (kX1_played :: aW) { frames := 0, cells := 0, slots := 0, locals := 0 } (rPre [.ref od] D [(od, .inr (1, [.int (nI n), .int (nI a), .int (nI (2 ^ n - 1 - a)), .ref og, .ref oy, .ref oz, .int (nI q), .int (nI d), .int (nI v), .ref ot])), (og, .inr (0, [.int (nI n), .int (nI a), .ref ob, .ref oe])), (ob, .inl (cI, (2 ^ n), .inl (fun j => nI ((sd_br Y Z q) j)))), (oe, .inl (cZ, (2 * 2 ^ n), .inl (fun j => bI ((sd_ew n a (fun w => sd_br Y Z q w == 0)) j)))), (oy, .inl (cI, 24, .inl (fun j => nI (Y j)))), (oz, .inl (cI, 24, .inl (fun j => nI (Z j)))), (ot, .inl (cI, n, .inl T))] [(cI, .int), (cZ, .boolean)]) (QcRead (nI d)) 0 0 (fun _ => False) := by
  obtain ⟨hn1, hn, ha, h5, hq, hY, hZ, hd, hv⟩ := id ok
  have h2n := hw_p10 hn
  refine Met.ofW (cc := cX1_played) (maxL := 1) (ret := (some .int)) (by decide) rfl ?_
  intro p e s m args below meth c s₁ Bo hml hpre
  obtain ⟨rfl, hP, hK, hN⟩ := hpre
  have hx := Bo.exec
  have hb := Bo.bytes
  have hr := Bo.returns
  have hts := atoms_spec (ws := kX1_played :: aW) Bo.pre
  have ht : ∀ w ∈ aW, w.before _ s = true := fun w h => hts w (List.mem_cons_of_mem _ h)
  have hown : s.vm.findClass RX1 = some m.cls := findClass_of_methodNamed Bo.named
  have hlocks := Bo.notSynchronized
  have hP : va_P D clS [(od, .inr (1, [.int (nI n), .int (nI a), .int (nI (2 ^ n - 1 - a)), .ref og, .ref oy, .ref oz, .int (nI q), .int (nI d), .int (nI v), .ref ot])), (og, .inr (0, [.int (nI n), .int (nI a), .ref ob, .ref oe])), (ob, .inl (cI, (2 ^ n), .inl (fun j => nI ((sd_br Y Z q) j)))), (oe, .inl (cZ, (2 * 2 ^ n), .inl (fun j => bI ((sd_ew n a (fun w => sd_br Y Z q w == 0)) j)))), (oy, .inl (cI, 24, .inl (fun j => nI (Y j)))), (oz, .inl (cI, 24, .inl (fun j => nI (Z j)))), (ot, .inl (cI, n, .inl T))] s.heap := hP
  have hl := lv_entry ([.ref od]) (n := 1) (Nat.le_of_ble_eq_true rfl)
  rw [lg_entry_eq]
  generalize (lg_sl ([.ref od]) ++ List.replicate (1 - (lg_sl ([.ref od])).length) Slot.unset).toArray = ls at hl ⊢
  have hl : lv_has ls 1 [(0, .ref od)] := hl
  refine lv_aload_n hx hb dX1_played_0 rfl (lv_at hl 0 rfl) ?_
  refine va_get (D := D) (ci := 1) (v := .int (nI d)) (C := RX1) (T := TX1) (N := 10) hx hb ht inX1 hown hK hP 0 rfl rfl 7 (by decide) (ht _ wf_X1_playDepth) (fun _ h9 => h9) rfl dX1_played_1 ?_
  exact W.iret hx hb hr (fun t ht2 _ => ⟨hw_ret (rfl), ht2⟩) (fun _ h => by cases h) dX1_played_4

set_option maxHeartbeats 4000000 in
set_option maxRecDepth 100000 in
theorem c_isVariable (l : Launch) (D : va_G) (cI cZ : ClassId) (od og ob oe oy oz ot n a q d v : Nat) (Y Z : Nat → Nat) (T : Nat → Int32) (ok : dOk n a q d v Y Z) (x : Int32) : Met l yX1_isVariable (kX1_isVariable :: aW) { frames := 0, cells := 0, slots := 0, locals := 0 } (rPre [.ref od, .int x] D [(od, .inr (1, [.int (nI n), .int (nI a), .int (nI (2 ^ n - 1 - a)), .ref og, .ref oy, .ref oz, .int (nI q), .int (nI d), .int (nI v), .ref ot])), (og, .inr (0, [.int (nI n), .int (nI a), .ref ob, .ref oe])), (ob, .inl (cI, (2 ^ n), .inl (fun j => nI ((sd_br Y Z q) j)))), (oe, .inl (cZ, (2 * 2 ^ n), .inl (fun j => bI ((sd_ew n a (fun w => sd_br Y Z q w == 0)) j)))), (oy, .inl (cI, 24, .inl (fun j => nI (Y j)))), (oz, .inl (cI, 24, .inl (fun j => nI (Z j)))), (ot, .inl (cI, n, .inl T))] [(cI, .int), (cZ, .boolean)]) (QcRead (bI (decide (uN x < n)))) 0 0 (fun _ => False) := by
  obtain ⟨hn1, hn, ha, h5, hq, hY, hZ, hd, hv⟩ := id ok
  have h2n := hw_p10 hn
  refine Met.ofW (cc := cX1_isVariable) (maxL := 2) (ret := (some .boolean)) (by decide) rfl ?_
  intro p e s m args below meth c s₁ Bo hml hpre
  obtain ⟨rfl, hP, hK, hN⟩ := hpre
  have hx := Bo.exec
  have hb := Bo.bytes
  have hr := Bo.returns
  have hts := atoms_spec (ws := kX1_isVariable :: aW) Bo.pre
  have ht : ∀ w ∈ aW, w.before _ s = true := fun w h => hts w (List.mem_cons_of_mem _ h)
  have hown : s.vm.findClass RX1 = some m.cls := findClass_of_methodNamed Bo.named
  have hlocks := Bo.notSynchronized
  have hP : va_P D clS [(od, .inr (1, [.int (nI n), .int (nI a), .int (nI (2 ^ n - 1 - a)), .ref og, .ref oy, .ref oz, .int (nI q), .int (nI d), .int (nI v), .ref ot])), (og, .inr (0, [.int (nI n), .int (nI a), .ref ob, .ref oe])), (ob, .inl (cI, (2 ^ n), .inl (fun j => nI ((sd_br Y Z q) j)))), (oe, .inl (cZ, (2 * 2 ^ n), .inl (fun j => bI ((sd_ew n a (fun w => sd_br Y Z q w == 0)) j)))), (oy, .inl (cI, 24, .inl (fun j => nI (Y j)))), (oz, .inl (cI, 24, .inl (fun j => nI (Z j)))), (ot, .inl (cI, n, .inl T))] s.heap := hP
  have hl := lv_entry ([.ref od, .int x]) (n := 2) (Nat.le_of_ble_eq_true rfl)
  rw [lg_entry_eq]
  generalize (lg_sl ([.ref od, .int x]) ++ List.replicate (2 - (lg_sl ([.ref od, .int x])).length) Slot.unset).toArray = ls at hl ⊢
  have hl : lv_has ls 2 [(0, .ref od), (1, .int x)] := hl
  suffices mk : W p l e (headSpec (kX1_isVariable :: aW) { frames := 0, cells := 0, slots := 0, locals := 0 }).room s m (([.ref od, .int x] : List Value).toArray) below meth c s.heap [] 0 0 (MQ below (QcRead (bI (decide (uN x < n)))) (([.ref od, .int x] : List Value).toArray) s 0 0 (fun _ => False)) (F0 m 17 ls [.int (bI (decide (uN x < n)))]) by
    refine lv_iload_n hx hb dX1_isVariable_0 rfl (lv_at hl 1 rfl) ?_
    refine lv_if_lt (tgt := 16) hx hb dX1_isVariable_1 rfl (fun h1 => ?_) (fun h1 => ?_)
    · refine lv_iconst (v := nI 0) hx hb dX1_isVariable_16 (by decide) ?_
      refine lv_nm (y := bI (decide (uN x < n))) (hw_0.trans (congrArg bI (show false = (decide (uN x < n)) by first | exact (decide_eq_true (hw_in (by omega) h1 h2)).symm | exact (decide_eq_false (hw_big (by omega) h2)).symm | exact (decide_eq_false (fun h9 => (hw_pos (n := n) (by omega) h9).1 h1)).symm))) ?_
      exact mk
    · refine lv_iload_n hx hb dX1_isVariable_4 rfl (lv_at hl 1 rfl) ?_
      refine lv_aload_n hx hb dX1_isVariable_5 rfl (lv_at hl 0 rfl) ?_
      refine va_get (D := D) (ci := 1) (v := .int (nI n)) (C := RX1) (T := TX1) (N := 10) hx hb ht inX1 hown hK hP 0 rfl rfl 0 (by decide) (ht _ wf_X1_size) (fun _ h9 => h9) rfl dX1_isVariable_6 ?_
      refine lv_icmp_ge (tgt := 16) hx hb dX1_isVariable_9 rfl (fun h2 => ?_) (fun h2 => ?_)
      · refine lv_iconst (v := nI 0) hx hb dX1_isVariable_16 (by decide) ?_
        refine lv_nm (y := bI (decide (uN x < n))) (hw_0.trans (congrArg bI (show false = (decide (uN x < n)) by first | exact (decide_eq_true (hw_in (by omega) h1 h2)).symm | exact (decide_eq_false (hw_big (by omega) h2)).symm | exact (decide_eq_false (fun h9 => (hw_pos (n := n) (by omega) h9).1 h1)).symm))) ?_
        exact mk
      · refine lv_iconst (v := nI 1) hx hb dX1_isVariable_12 (by decide) ?_
        refine lv_goto (tgt := 17) hx hb dX1_isVariable_13 rfl ?_
        refine lv_nm (y := bI (decide (uN x < n))) (hw_1.trans (congrArg bI (show true = (decide (uN x < n)) by first | exact (decide_eq_true (hw_in (by omega) h1 h2)).symm | exact (decide_eq_false (hw_big (by omega) h2)).symm | exact (decide_eq_false (fun h9 => (hw_pos (n := n) (by omega) h9).1 h1)).symm))) ?_
        exact mk
  exact W.zret hx hb hr (bI_nar _) (fun t ht2 _ => ⟨hw_ret (rfl), ht2⟩) (fun _ h => by cases h) dX1_isVariable_17

set_option maxHeartbeats 4000000 in
set_option maxRecDepth 100000 in
theorem c_isClause (l : Launch) (D : va_G) (cI cZ : ClassId) (od og ob oe oy oz ot n a q d v : Nat) (Y Z : Nat → Nat) (T : Nat → Int32) (ok : dOk n a q d v Y Z) (x : Int32) : Met l yX1_isClause (kX1_isClause :: aW) { frames := 0, cells := 0, slots := 0, locals := 0 } (rPre [.ref od, .int x] D [(od, .inr (1, [.int (nI n), .int (nI a), .int (nI (2 ^ n - 1 - a)), .ref og, .ref oy, .ref oz, .int (nI q), .int (nI d), .int (nI v), .ref ot])), (og, .inr (0, [.int (nI n), .int (nI a), .ref ob, .ref oe])), (ob, .inl (cI, (2 ^ n), .inl (fun j => nI ((sd_br Y Z q) j)))), (oe, .inl (cZ, (2 * 2 ^ n), .inl (fun j => bI ((sd_ew n a (fun w => sd_br Y Z q w == 0)) j)))), (oy, .inl (cI, 24, .inl (fun j => nI (Y j)))), (oz, .inl (cI, 24, .inl (fun j => nI (Z j)))), (ot, .inl (cI, n, .inl T))] [(cI, .int), (cZ, .boolean)]) (QcRead (bI (decide (uN x < q)))) 0 0 (fun _ => False) := by
  obtain ⟨hn1, hn, ha, h5, hq, hY, hZ, hd, hv⟩ := id ok
  have h2n := hw_p10 hn
  refine Met.ofW (cc := cX1_isClause) (maxL := 2) (ret := (some .boolean)) (by decide) rfl ?_
  intro p e s m args below meth c s₁ Bo hml hpre
  obtain ⟨rfl, hP, hK, hN⟩ := hpre
  have hx := Bo.exec
  have hb := Bo.bytes
  have hr := Bo.returns
  have hts := atoms_spec (ws := kX1_isClause :: aW) Bo.pre
  have ht : ∀ w ∈ aW, w.before _ s = true := fun w h => hts w (List.mem_cons_of_mem _ h)
  have hown : s.vm.findClass RX1 = some m.cls := findClass_of_methodNamed Bo.named
  have hlocks := Bo.notSynchronized
  have hP : va_P D clS [(od, .inr (1, [.int (nI n), .int (nI a), .int (nI (2 ^ n - 1 - a)), .ref og, .ref oy, .ref oz, .int (nI q), .int (nI d), .int (nI v), .ref ot])), (og, .inr (0, [.int (nI n), .int (nI a), .ref ob, .ref oe])), (ob, .inl (cI, (2 ^ n), .inl (fun j => nI ((sd_br Y Z q) j)))), (oe, .inl (cZ, (2 * 2 ^ n), .inl (fun j => bI ((sd_ew n a (fun w => sd_br Y Z q w == 0)) j)))), (oy, .inl (cI, 24, .inl (fun j => nI (Y j)))), (oz, .inl (cI, 24, .inl (fun j => nI (Z j)))), (ot, .inl (cI, n, .inl T))] s.heap := hP
  have hl := lv_entry ([.ref od, .int x]) (n := 2) (Nat.le_of_ble_eq_true rfl)
  rw [lg_entry_eq]
  generalize (lg_sl ([.ref od, .int x]) ++ List.replicate (2 - (lg_sl ([.ref od, .int x])).length) Slot.unset).toArray = ls at hl ⊢
  have hl : lv_has ls 2 [(0, .ref od), (1, .int x)] := hl
  suffices mk : W p l e (headSpec (kX1_isClause :: aW) { frames := 0, cells := 0, slots := 0, locals := 0 }).room s m (([.ref od, .int x] : List Value).toArray) below meth c s.heap [] 0 0 (MQ below (QcRead (bI (decide (uN x < q)))) (([.ref od, .int x] : List Value).toArray) s 0 0 (fun _ => False)) (F0 m 17 ls [.int (bI (decide (uN x < q)))]) by
    refine lv_iload_n hx hb dX1_isClause_0 rfl (lv_at hl 1 rfl) ?_
    refine lv_if_lt (tgt := 16) hx hb dX1_isClause_1 rfl (fun h1 => ?_) (fun h1 => ?_)
    · refine lv_iconst (v := nI 0) hx hb dX1_isClause_16 (by decide) ?_
      refine lv_nm (y := bI (decide (uN x < q))) (hw_0.trans (congrArg bI (show false = (decide (uN x < q)) by first | exact (decide_eq_true (hw_in (by omega) h1 h2)).symm | exact (decide_eq_false (hw_big (by omega) h2)).symm | exact (decide_eq_false (fun h9 => (hw_pos (n := q) (by omega) h9).1 h1)).symm))) ?_
      exact mk
    · refine lv_iload_n hx hb dX1_isClause_4 rfl (lv_at hl 1 rfl) ?_
      refine lv_aload_n hx hb dX1_isClause_5 rfl (lv_at hl 0 rfl) ?_
      refine va_get (D := D) (ci := 1) (v := .int (nI q)) (C := RX1) (T := TX1) (N := 10) hx hb ht inX1 hown hK hP 0 rfl rfl 6 (by decide) (ht _ wf_X1_clauseCount) (fun _ h9 => h9) rfl dX1_isClause_6 ?_
      refine lv_icmp_ge (tgt := 16) hx hb dX1_isClause_9 rfl (fun h2 => ?_) (fun h2 => ?_)
      · refine lv_iconst (v := nI 0) hx hb dX1_isClause_16 (by decide) ?_
        refine lv_nm (y := bI (decide (uN x < q))) (hw_0.trans (congrArg bI (show false = (decide (uN x < q)) by first | exact (decide_eq_true (hw_in (by omega) h1 h2)).symm | exact (decide_eq_false (hw_big (by omega) h2)).symm | exact (decide_eq_false (fun h9 => (hw_pos (n := q) (by omega) h9).1 h1)).symm))) ?_
        exact mk
      · refine lv_iconst (v := nI 1) hx hb dX1_isClause_12 (by decide) ?_
        refine lv_goto (tgt := 17) hx hb dX1_isClause_13 rfl ?_
        refine lv_nm (y := bI (decide (uN x < q))) (hw_1.trans (congrArg bI (show true = (decide (uN x < q)) by first | exact (decide_eq_true (hw_in (by omega) h1 h2)).symm | exact (decide_eq_false (hw_big (by omega) h2)).symm | exact (decide_eq_false (fun h9 => (hw_pos (n := q) (by omega) h9).1 h1)).symm))) ?_
        exact mk
  exact W.zret hx hb hr (bI_nar _) (fun t ht2 _ => ⟨hw_ret (rfl), ht2⟩) (fun _ h => by cases h) dX1_isClause_17

set_option maxHeartbeats 4000000 in
set_option maxRecDepth 100000 in
theorem c_isEves (l : Launch) (D : va_G) (cI cZ : ClassId) (od og ob oe oy oz ot n a q d v : Nat) (Y Z : Nat → Nat) (T : Nat → Int32) (ok : dOk n a q d v Y Z) (x : Int32) : Met l yX1_isEves (kX1_isEves :: aW) { frames := 1, cells := 0, slots := 0, locals := 21 } (rPre [.ref od, .int x] D [(od, .inr (1, [.int (nI n), .int (nI a), .int (nI (2 ^ n - 1 - a)), .ref og, .ref oy, .ref oz, .int (nI q), .int (nI d), .int (nI v), .ref ot])), (og, .inr (0, [.int (nI n), .int (nI a), .ref ob, .ref oe])), (ob, .inl (cI, (2 ^ n), .inl (fun j => nI ((sd_br Y Z q) j)))), (oe, .inl (cZ, (2 * 2 ^ n), .inl (fun j => bI ((sd_ew n a (fun w => sd_br Y Z q w == 0)) j)))), (oy, .inl (cI, 24, .inl (fun j => nI (Y j)))), (oz, .inl (cI, 24, .inl (fun j => nI (Z j)))), (ot, .inl (cI, n, .inl T))] [(cI, .int), (cZ, .boolean)]) (QcRead (bI (decide (uN x < n) && !a.testBit (uN x)))) 0 0 (fun _ => False) := by
  obtain ⟨hn1, hn, ha, h5, hq, hY, hZ, hd, hv⟩ := id ok
  have h2n := hw_p10 hn
  refine Met.ofW (cc := cX1_isEves) (maxL := 2) (ret := (some .boolean)) (by decide) rfl ?_
  intro p e s m args below meth c s₁ Bo hml hpre
  obtain ⟨rfl, hP, hK, hN⟩ := hpre
  have hx := Bo.exec
  have hb := Bo.bytes
  have hr := Bo.returns
  have hts := atoms_spec (ws := kX1_isEves :: aW) Bo.pre
  have ht : ∀ w ∈ aW, w.before _ s = true := fun w h => hts w (List.mem_cons_of_mem _ h)
  have hown : s.vm.findClass RX1 = some m.cls := findClass_of_methodNamed Bo.named
  have hlocks := Bo.notSynchronized
  have hP : va_P D clS [(od, .inr (1, [.int (nI n), .int (nI a), .int (nI (2 ^ n - 1 - a)), .ref og, .ref oy, .ref oz, .int (nI q), .int (nI d), .int (nI v), .ref ot])), (og, .inr (0, [.int (nI n), .int (nI a), .ref ob, .ref oe])), (ob, .inl (cI, (2 ^ n), .inl (fun j => nI ((sd_br Y Z q) j)))), (oe, .inl (cZ, (2 * 2 ^ n), .inl (fun j => bI ((sd_ew n a (fun w => sd_br Y Z q w == 0)) j)))), (oy, .inl (cI, 24, .inl (fun j => nI (Y j)))), (oz, .inl (cI, 24, .inl (fun j => nI (Z j)))), (ot, .inl (cI, n, .inl T))] s.heap := hP
  have hl := lv_entry ([.ref od, .int x]) (n := 2) (Nat.le_of_ble_eq_true rfl)
  rw [lg_entry_eq]
  generalize (lg_sl ([.ref od, .int x]) ++ List.replicate (2 - (lg_sl ([.ref od, .int x])).length) Slot.unset).toArray = ls at hl ⊢
  have hl : lv_has ls 2 [(0, .ref od), (1, .int x)] := hl
  suffices mk : W p l e (headSpec (kX1_isEves :: aW) { frames := 1, cells := 0, slots := 0, locals := 21 }).room s m (([.ref od, .int x] : List Value).toArray) below meth c s.heap [] 0 0 (MQ below (QcRead (bI (decide (uN x < n) && !a.testBit (uN x)))) (([.ref od, .int x] : List Value).toArray) s 0 0 (fun _ => False)) (F0 m 25 ls [.int (bI (decide (uN x < n) && !a.testBit (uN x)))]) by
    refine lv_aload_n hx hb dX1_isEves_0 rfl (lv_at hl 0 rfl) ?_
    refine lv_iload_n hx hb dX1_isEves_1 rfl (lv_at hl 1 rfl) ?_
    refine hw_callR (va_runV (b := od) (As := [.int x]) (rest := []) ⟨hx, hb, hml, hown, ht⟩ (c_isVariable l D cI cZ od og ob oe oy oz ot n a q d v Y Z T ok x) (cwV 1 ht (gV wm_X1_X1_isVariable wi_X1_isVariable ws_X1_isVariable wn_X1 wc_X1_isVariable) rfl rfl rfl (by decide +kernel) ⟨Nat.le_of_ble_eq_true rfl, Nat.le_of_ble_eq_true rfl⟩) (rPre_V 0 hP hK hN rfl rfl) rfl rfl hl.1 rfl (lv_room (Nat.le_of_ble_eq_true rfl)) dX1_isEves_2 ⟨Nat.zero_le _, Nat.zero_le _⟩) ?_
    refine lv_if_eq (tgt := 24) hx hb dX1_isEves_5 rfl (fun h1 => ?_) (fun h1 => ?_)
    · have h1 : (decide (uN x < n)) = false := (bI_eq0 _).mp h1
      refine lv_iconst (v := nI 0) hx hb dX1_isEves_24 (by decide) ?_
      refine lv_nm (y := bI (decide (uN x < n) && !a.testBit (uN x))) (hw_0.trans (congrArg bI (show false = (decide (uN x < n) && !a.testBit (uN x)) by rw [h1]; rfl))) ?_
      exact mk
    · have h1 : (decide (uN x < n)) = true := bI_ne0 h1
      refine lv_aload_n hx hb dX1_isEves_8 rfl (lv_at hl 0 rfl) ?_
      refine va_get (D := D) (ci := 1) (v := .int (nI (2 ^ n - 1 - a))) (C := RX1) (T := TX1) (N := 10) hx hb ht inX1 hown hK hP 0 rfl rfl 2 (by decide) (ht _ wf_X1_eveSet) (fun _ h9 => h9) rfl dX1_isEves_9 ?_
      refine lv_iload_n hx hb dX1_isEves_12 rfl (lv_at hl 1 rfl) ?_
      have hxn : uN x < n := of_decide_eq_true h1
      refine lv_nm (y := nI (uN x)) ((nI_uN x).symm) ?_
      refine hw_callR (va_runS (As := [.int (nI (2 ^ n - 1 - a)), .int (nI (uN x))]) (rest := []) ⟨hx, hb, hml, hown, ht⟩ (c_bitn l D cI cZ (2 ^ n - 1 - a) (uN x) (by omega) (by omega)) (va_cwS 2 ht (gS wm_X1_X1_bit wt_X1_bit wn_X1 wc_X1_bit) rfl rfl rfl (by decide +kernel) ⟨Nat.le_of_ble_eq_true rfl, Nat.le_of_ble_eq_true rfl⟩) (rPre_S (hP.sub [] rfl) hK hN) rfl rfl hl.1 rfl (lv_room (Nat.le_of_ble_eq_true rfl)) dX1_isEves_13 ⟨Nat.zero_le _, Nat.zero_le _⟩) ?_
      refine lv_nm (y := bI (!a.testBit (uN x))) (congrArg bI (sd_ev ha hxn)) ?_
      refine lv_iconst (v := nI 1) hx hb dX1_isEves_16 (by decide) ?_
      refine lv_icmp_ne (tgt := 24) hx hb dX1_isEves_17 rfl (fun h2 => ?_) (fun h2 => ?_)
      · have h2 : (!a.testBit (uN x)) = false := bI_ne1 h2
        refine lv_iconst (v := nI 0) hx hb dX1_isEves_24 (by decide) ?_
        refine lv_nm (y := bI (decide (uN x < n) && !a.testBit (uN x))) (hw_0.trans (congrArg bI (show false = (decide (uN x < n) && !a.testBit (uN x)) by rw [h1, h2]; rfl))) ?_
        exact mk
      · have h2 : (!a.testBit (uN x)) = true := (bI_eq1 _).mp h2
        refine lv_iconst (v := nI 1) hx hb dX1_isEves_20 (by decide) ?_
        refine lv_goto (tgt := 25) hx hb dX1_isEves_21 rfl ?_
        refine lv_nm (y := bI (decide (uN x < n) && !a.testBit (uN x))) (hw_1.trans (congrArg bI (show true = (decide (uN x < n) && !a.testBit (uN x)) by rw [h1, h2]; rfl))) ?_
        exact mk
  exact W.zret hx hb hr (bI_nar _) (fun t ht2 _ => ⟨hw_ret (rfl), ht2⟩) (fun _ h => by cases h) dX1_isEves_25

set_option maxHeartbeats 4000000 in
set_option maxRecDepth 100000 in
theorem c_areSets (l : Launch) (D : va_G) (cI cZ : ClassId) (od og ob oe oy oz ot n a q d v : Nat) (Y Z : Nat → Nat) (T : Nat → Int32) (ok : dOk n a q d v Y Z) (y0 z0 : Int32) : Met l yX1_areSets (kX1_areSets :: aW) { frames := 0, cells := 0, slots := 0, locals := 0 } (rPre [.ref od, .int y0, .int z0] D [(od, .inr (1, [.int (nI n), .int (nI a), .int (nI (2 ^ n - 1 - a)), .ref og, .ref oy, .ref oz, .int (nI q), .int (nI d), .int (nI v), .ref ot])), (og, .inr (0, [.int (nI n), .int (nI a), .ref ob, .ref oe])), (ob, .inl (cI, (2 ^ n), .inl (fun j => nI ((sd_br Y Z q) j)))), (oe, .inl (cZ, (2 * 2 ^ n), .inl (fun j => bI ((sd_ew n a (fun w => sd_br Y Z q w == 0)) j)))), (oy, .inl (cI, 24, .inl (fun j => nI (Y j)))), (oz, .inl (cI, 24, .inl (fun j => nI (Z j)))), (ot, .inl (cI, n, .inl T))] [(cI, .int), (cZ, .boolean)]) (QcRead (bI (decide (uN y0 < 2 ^ n) && decide (uN z0 < 2 ^ n)))) 0 0 (fun _ => False) := by
  obtain ⟨hn1, hn, ha, h5, hq, hY, hZ, hd, hv⟩ := id ok
  have h2n := hw_p10 hn
  refine Met.ofW (cc := cX1_areSets) (maxL := 3) (ret := (some .boolean)) (by decide) rfl ?_
  intro p e s m args below meth c s₁ Bo hml hpre
  obtain ⟨rfl, hP, hK, hN⟩ := hpre
  have hx := Bo.exec
  have hb := Bo.bytes
  have hr := Bo.returns
  have hts := atoms_spec (ws := kX1_areSets :: aW) Bo.pre
  have ht : ∀ w ∈ aW, w.before _ s = true := fun w h => hts w (List.mem_cons_of_mem _ h)
  have hown : s.vm.findClass RX1 = some m.cls := findClass_of_methodNamed Bo.named
  have hlocks := Bo.notSynchronized
  have hP : va_P D clS [(od, .inr (1, [.int (nI n), .int (nI a), .int (nI (2 ^ n - 1 - a)), .ref og, .ref oy, .ref oz, .int (nI q), .int (nI d), .int (nI v), .ref ot])), (og, .inr (0, [.int (nI n), .int (nI a), .ref ob, .ref oe])), (ob, .inl (cI, (2 ^ n), .inl (fun j => nI ((sd_br Y Z q) j)))), (oe, .inl (cZ, (2 * 2 ^ n), .inl (fun j => bI ((sd_ew n a (fun w => sd_br Y Z q w == 0)) j)))), (oy, .inl (cI, 24, .inl (fun j => nI (Y j)))), (oz, .inl (cI, 24, .inl (fun j => nI (Z j)))), (ot, .inl (cI, n, .inl T))] s.heap := hP
  have hl := lv_entry ([.ref od, .int y0, .int z0]) (n := 3) (Nat.le_of_ble_eq_true rfl)
  rw [lg_entry_eq]
  generalize (lg_sl ([.ref od, .int y0, .int z0]) ++ List.replicate (3 - (lg_sl ([.ref od, .int y0, .int z0])).length) Slot.unset).toArray = ls at hl ⊢
  have hl : lv_has ls 3 [(0, .ref od), (1, .int y0), (2, .int z0)] := hl
  refine lv_iload_n hx hb dX1_areSets_0 rfl (lv_at hl 1 rfl) ?_
  refine lv_iload_n hx hb dX1_areSets_1 rfl (lv_at hl 2 rfl) ?_
  refine lv_ior hx hb dX1_areSets_2 ?_
  refine lv_aload_n hx hb dX1_areSets_3 rfl (lv_at hl 0 rfl) ?_
  refine va_get (D := D) (ci := 1) (v := .int (nI n)) (C := RX1) (T := TX1) (N := 10) hx hb ht inX1 hown hK hP 0 rfl rfl 0 (by decide) (ht _ wf_X1_size) (fun _ h9 => h9) rfl dX1_areSets_4 ?_
  refine lv_iushr hx hb dX1_areSets_7 rfl ?_
  refine lv_nm (y := nI (uN (y0 ||| z0) / 2 ^ n)) (hw_ushr _ (by omega)) ?_
  have hdv : uN (y0 ||| z0) / 2 ^ n < 2 ^ 32 := Nat.lt_of_le_of_lt (Nat.div_le_self _ _) (uN_lt _)
  suffices mk : W p l e (headSpec (kX1_areSets :: aW) { frames := 0, cells := 0, slots := 0, locals := 0 }).room s m (([.ref od, .int y0, .int z0] : List Value).toArray) below meth c s.heap [] 0 0 (MQ below (QcRead (bI (decide (uN y0 < 2 ^ n) && decide (uN z0 < 2 ^ n)))) (([.ref od, .int y0, .int z0] : List Value).toArray) s 0 0 (fun _ => False)) (F0 m 16 ls [.int (bI (decide (uN y0 < 2 ^ n) && decide (uN z0 < 2 ^ n)))]) by
    refine lv_if_ne (tgt := 15) hx hb dX1_areSets_8 rfl (fun h1 => ?_) (fun h1 => ?_)
    · have h1 : ¬ uN (y0 ||| z0) / 2 ^ n = 0 := fun h9 => h1 ((nI_z (by omega)).mpr h9)
      refine lv_iconst (v := nI 0) hx hb dX1_areSets_15 (by decide) ?_
      refine lv_nm (y := bI (decide (uN y0 < 2 ^ n) && decide (uN z0 < 2 ^ n))) (hw_0.trans (congrArg bI (show false = (decide (uN y0 < 2 ^ n) && decide (uN z0 < 2 ^ n)) by first | exact hw_set_t h1 | exact hw_set_f h1))) ?_
      exact mk
    · have h1 : uN (y0 ||| z0) / 2 ^ n = 0 := (nI_z (by omega)).mp h1
      refine lv_iconst (v := nI 1) hx hb dX1_areSets_11 (by decide) ?_
      refine lv_goto (tgt := 16) hx hb dX1_areSets_12 rfl ?_
      refine lv_nm (y := bI (decide (uN y0 < 2 ^ n) && decide (uN z0 < 2 ^ n))) (hw_1.trans (congrArg bI (show true = (decide (uN y0 < 2 ^ n) && decide (uN z0 < 2 ^ n)) by first | exact hw_set_t h1 | exact hw_set_f h1))) ?_
      exact mk
  exact W.zret hx hb hr (bI_nar _) (fun t ht2 _ => ⟨hw_ret (rfl), ht2⟩) (fun _ h => by cases h) dX1_areSets_16

set_option maxHeartbeats 4000000 in
set_option maxRecDepth 100000 in
theorem c_sumsBefore (l : Launch) (D : va_G) (cI cZ : ClassId) (od og ob oe oy oz ot n a q d v : Nat) (Y Z : Nat → Nat) (T : Nat → Int32) (ok : dOk n a q d v Y Z) (i : Nat) (hi : i ≤ n) : Met l yX1_sumsBefore (kX1_sumsBefore :: aW) { frames := 1, cells := 0, slots := 0, locals := 20 } (rPre [.ref od, .int (nI i)] D [(od, .inr (1, [.int (nI n), .int (nI a), .int (nI (2 ^ n - 1 - a)), .ref og, .ref oy, .ref oz, .int (nI q), .int (nI d), .int (nI v), .ref ot])), (og, .inr (0, [.int (nI n), .int (nI a), .ref ob, .ref oe])), (ob, .inl (cI, (2 ^ n), .inl (fun j => nI ((sd_br Y Z q) j)))), (oe, .inl (cZ, (2 * 2 ^ n), .inl (fun j => bI ((sd_ew n a (fun w => sd_br Y Z q w == 0)) j)))), (oy, .inl (cI, 24, .inl (fun j => nI (Y j)))), (oz, .inl (cI, 24, .inl (fun j => nI (Z j)))), (ot, .inl (cI, n, .inl T))] [(cI, .int), (cZ, .boolean)]) (QcRead (nI (2 ^ sd_ct a i))) 0 0 (fun _ => False) := by
  obtain ⟨hn1, hn, ha, h5, hq, hY, hZ, hd, hv⟩ := id ok
  have h2n := hw_p10 hn
  refine Met.ofW (cc := cX1_sumsBefore) (maxL := 2) (ret := (some .int)) (by decide) rfl ?_
  intro p e s m args below meth c s₁ Bo hml hpre
  obtain ⟨rfl, hP, hK, hN⟩ := hpre
  have hx := Bo.exec
  have hb := Bo.bytes
  have hr := Bo.returns
  have hts := atoms_spec (ws := kX1_sumsBefore :: aW) Bo.pre
  have ht : ∀ w ∈ aW, w.before _ s = true := fun w h => hts w (List.mem_cons_of_mem _ h)
  have hown : s.vm.findClass RX1 = some m.cls := findClass_of_methodNamed Bo.named
  have hlocks := Bo.notSynchronized
  have hP : va_P D clS [(od, .inr (1, [.int (nI n), .int (nI a), .int (nI (2 ^ n - 1 - a)), .ref og, .ref oy, .ref oz, .int (nI q), .int (nI d), .int (nI v), .ref ot])), (og, .inr (0, [.int (nI n), .int (nI a), .ref ob, .ref oe])), (ob, .inl (cI, (2 ^ n), .inl (fun j => nI ((sd_br Y Z q) j)))), (oe, .inl (cZ, (2 * 2 ^ n), .inl (fun j => bI ((sd_ew n a (fun w => sd_br Y Z q w == 0)) j)))), (oy, .inl (cI, 24, .inl (fun j => nI (Y j)))), (oz, .inl (cI, 24, .inl (fun j => nI (Z j)))), (ot, .inl (cI, n, .inl T))] s.heap := hP
  have hl := lv_entry ([.ref od, .int (nI i)]) (n := 2) (Nat.le_of_ble_eq_true rfl)
  rw [lg_entry_eq]
  generalize (lg_sl ([.ref od, .int (nI i)]) ++ List.replicate (2 - (lg_sl ([.ref od, .int (nI i)])).length) Slot.unset).toArray = ls at hl ⊢
  have hl : lv_has ls 2 [(0, .ref od), (1, .int (nI i))] := hl
  have hpi := Nat.two_pow_pos i
  have hci := sd_ct_mono a hi
  have hil : a % 2 ^ i < 1024 := Nat.lt_of_le_of_lt (Nat.mod_le _ _) (by omega)
  refine lv_iconst (v := nI 1) hx hb dX1_sumsBefore_0 (by decide) ?_
  refine lv_aload_n hx hb dX1_sumsBefore_1 rfl (lv_at hl 0 rfl) ?_
  refine va_get (D := D) (ci := 1) (v := .int (nI a)) (C := RX1) (T := TX1) (N := 10) hx hb ht inX1 hown hK hP 0 rfl rfl 1 (by decide) (ht _ wf_X1_adamSet) (fun _ h9 => h9) rfl dX1_sumsBefore_2 ?_
  refine lv_iconst (v := nI 1) hx hb dX1_sumsBefore_5 (by decide) ?_
  refine lv_iload_n hx hb dX1_sumsBefore_6 rfl (lv_at hl 1 rfl) ?_
  refine lv_ishl hx hb dX1_sumsBefore_7 ?_
  refine lv_nm (y := nI (2 ^ i)) (hw_shl1' (by omega)) ?_
  refine lv_iconst (v := nI 1) hx hb dX1_sumsBefore_8 (by decide) ?_
  refine lv_isub hx hb dX1_sumsBefore_9 ?_
  refine lv_nm (y := nI ((2 ^ i) - 1)) (pk_sub (by omega)) ?_
  refine lv_iand hx hb dX1_sumsBefore_10 ?_
  refine lv_nm (y := nI (a &&& ((2 ^ i) - 1))) (hw_and _ _) ?_
  refine lv_nm (y := nI (a % 2 ^ i)) (congrArg nI (Nat.and_two_pow_sub_one_eq_mod a i)) ?_
  refine hw_callR (va_runS (As := [.int (nI (a % 2 ^ i))]) (rest := [.int (nI 1)]) ⟨hx, hb, hml, hown, ht⟩ (c_bitCount l D cI cZ (a % 2 ^ i) hil) (va_cwS 1 ht (gS wm_X1_J6_bitCount wt_J6_bitCount wn_J6 wc_J6_bitCount) rfl rfl rfl (by decide +kernel) ⟨Nat.le_of_ble_eq_true rfl, Nat.le_of_ble_eq_true rfl⟩) (rPre_S (hP.sub [] rfl) hK hN) rfl rfl hl.1 rfl (lv_room (Nat.le_of_ble_eq_true rfl)) dX1_sumsBefore_11 ⟨Nat.zero_le _, Nat.zero_le _⟩) ?_
  refine lv_nm (y := nI (sd_ct a i)) (congrArg nI (sd_ct_mod (by omega))) ?_
  refine lv_ishl hx hb dX1_sumsBefore_14 ?_
  refine lv_nm (y := nI (2 ^ (sd_ct a i))) (hw_shl1' (by omega)) ?_
  exact W.iret hx hb hr (fun t ht2 _ => ⟨hw_ret (rfl), ht2⟩) (fun _ h => by cases h) dX1_sumsBefore_15

set_option maxHeartbeats 4000000 in
set_option maxRecDepth 100000 in
theorem c_sumBefore (l : Launch) (D : va_G) (cI cZ : ClassId) (od og ob oe oy oz ot n a q d v : Nat) (Y Z : Nat → Nat) (T : Nat → Int32) (ok : dOk n a q d v Y Z) (i sm : Nat) (hi : i ≤ n) : Met l yX1_sumBefore (kX1_sumBefore :: aW) { frames := 2, cells := 0, slots := 0, locals := 41 } (rPre [.ref od, .int (nI i), .int (nI sm)] D [(od, .inr (1, [.int (nI n), .int (nI a), .int (nI (2 ^ n - 1 - a)), .ref og, .ref oy, .ref oz, .int (nI q), .int (nI d), .int (nI v), .ref ot])), (og, .inr (0, [.int (nI n), .int (nI a), .ref ob, .ref oe])), (ob, .inl (cI, (2 ^ n), .inl (fun j => nI ((sd_br Y Z q) j)))), (oe, .inl (cZ, (2 * 2 ^ n), .inl (fun j => bI ((sd_ew n a (fun w => sd_br Y Z q w == 0)) j)))), (oy, .inl (cI, 24, .inl (fun j => nI (Y j)))), (oz, .inl (cI, 24, .inl (fun j => nI (Z j)))), (ot, .inl (cI, n, .inl T))] [(cI, .int), (cZ, .boolean)]) (QcRead (nI (sm % 2 ^ sd_ct a i))) 0 0 (fun _ => False) := by
  obtain ⟨hn1, hn, ha, h5, hq, hY, hZ, hd, hv⟩ := id ok
  have h2n := hw_p10 hn
  refine Met.ofW (cc := cX1_sumBefore) (maxL := 3) (ret := (some .int)) (by decide) rfl ?_
  intro p e s m args below meth c s₁ Bo hml hpre
  obtain ⟨rfl, hP, hK, hN⟩ := hpre
  have hx := Bo.exec
  have hb := Bo.bytes
  have hr := Bo.returns
  have hts := atoms_spec (ws := kX1_sumBefore :: aW) Bo.pre
  have ht : ∀ w ∈ aW, w.before _ s = true := fun w h => hts w (List.mem_cons_of_mem _ h)
  have hown : s.vm.findClass RX1 = some m.cls := findClass_of_methodNamed Bo.named
  have hlocks := Bo.notSynchronized
  have hP : va_P D clS [(od, .inr (1, [.int (nI n), .int (nI a), .int (nI (2 ^ n - 1 - a)), .ref og, .ref oy, .ref oz, .int (nI q), .int (nI d), .int (nI v), .ref ot])), (og, .inr (0, [.int (nI n), .int (nI a), .ref ob, .ref oe])), (ob, .inl (cI, (2 ^ n), .inl (fun j => nI ((sd_br Y Z q) j)))), (oe, .inl (cZ, (2 * 2 ^ n), .inl (fun j => bI ((sd_ew n a (fun w => sd_br Y Z q w == 0)) j)))), (oy, .inl (cI, 24, .inl (fun j => nI (Y j)))), (oz, .inl (cI, 24, .inl (fun j => nI (Z j)))), (ot, .inl (cI, n, .inl T))] s.heap := hP
  have hl := lv_entry ([.ref od, .int (nI i), .int (nI sm)]) (n := 3) (Nat.le_of_ble_eq_true rfl)
  rw [lg_entry_eq]
  generalize (lg_sl ([.ref od, .int (nI i), .int (nI sm)]) ++ List.replicate (3 - (lg_sl ([.ref od, .int (nI i), .int (nI sm)])).length) Slot.unset).toArray = ls at hl ⊢
  have hl : lv_has ls 3 [(0, .ref od), (1, .int (nI i)), (2, .int (nI sm))] := hl
  have hpi := Nat.two_pow_pos (sd_ct a i)
  refine lv_iload_n hx hb dX1_sumBefore_0 rfl (lv_at hl 2 rfl) ?_
  refine lv_aload_n hx hb dX1_sumBefore_1 rfl (lv_at hl 0 rfl) ?_
  refine lv_iload_n hx hb dX1_sumBefore_2 rfl (lv_at hl 1 rfl) ?_
  refine hw_callR (va_runV (b := od) (As := [.int (nI i)]) (rest := [.int (nI sm)]) ⟨hx, hb, hml, hown, ht⟩ (c_sumsBefore l D cI cZ od og ob oe oy oz ot n a q d v Y Z T ok i hi) (cwV 1 ht (gV wm_X1_X1_sumsBefore wi_X1_sumsBefore ws_X1_sumsBefore wn_X1 wc_X1_sumsBefore) rfl rfl rfl (by decide +kernel) ⟨Nat.le_of_ble_eq_true rfl, Nat.le_of_ble_eq_true rfl⟩) (rPre_V 0 hP hK hN rfl rfl) rfl rfl hl.1 rfl (lv_room (Nat.le_of_ble_eq_true rfl)) dX1_sumBefore_3 ⟨Nat.zero_le _, Nat.zero_le _⟩) ?_
  refine lv_iconst (v := nI 1) hx hb dX1_sumBefore_6 (by decide) ?_
  refine lv_isub hx hb dX1_sumBefore_7 ?_
  refine lv_nm (y := nI ((2 ^ sd_ct a i) - 1)) (pk_sub (by omega)) ?_
  refine lv_iand hx hb dX1_sumBefore_8 ?_
  refine lv_nm (y := nI (sm &&& ((2 ^ sd_ct a i) - 1))) (hw_and _ _) ?_
  refine lv_nm (y := nI (sm % 2 ^ sd_ct a i)) (congrArg nI (Nat.and_two_pow_sub_one_eq_mod sm _)) ?_
  exact W.iret hx hb hr (fun t ht2 _ => ⟨hw_ret (rfl), ht2⟩) (fun _ h => by cases h) dX1_sumBefore_9

set_option maxHeartbeats 4000000 in
set_option maxRecDepth 100000 in
theorem c_wins (l : Launch) (D : va_G) (cI cZ : ClassId) (od og ob oe oy oz ot n a q d v : Nat) (Y Z : Nat → Nat) (T : Nat → Int32) (ok : dOk n a q d v Y Z) : Met l yX1_wins (kX1_wins :: aW) { frames := 1, cells := 0, slots := 0, locals := 22 } (rPre [.ref od] D [(od, .inr (1, [.int (nI n), .int (nI a), .int (nI (2 ^ n - 1 - a)), .ref og, .ref oy, .ref oz, .int (nI q), .int (nI d), .int (nI v), .ref ot])), (og, .inr (0, [.int (nI n), .int (nI a), .ref ob, .ref oe])), (ob, .inl (cI, (2 ^ n), .inl (fun j => nI ((sd_br Y Z q) j)))), (oe, .inl (cZ, (2 * 2 ^ n), .inl (fun j => bI ((sd_ew n a (fun w => sd_br Y Z q w == 0)) j)))), (oy, .inl (cI, 24, .inl (fun j => nI (Y j)))), (oz, .inl (cI, 24, .inl (fun j => nI (Z j)))), (ot, .inl (cI, n, .inl T))] [(cI, .int), (cZ, .boolean)]) (QcRead (bI (sd_E n a (fun w => sd_br Y Z q w == 0) d v))) 0 0 (fun _ => False) := by
  obtain ⟨hn1, hn, ha, h5, hq, hY, hZ, hd, hv⟩ := id ok
  have h2n := hw_p10 hn
  refine Met.ofW (cc := cX1_wins) (maxL := 1) (ret := (some .boolean)) (by decide) rfl ?_
  intro p e s m args below meth c s₁ Bo hml hpre
  obtain ⟨rfl, hP, hK, hN⟩ := hpre
  have hx := Bo.exec
  have hb := Bo.bytes
  have hr := Bo.returns
  have hts := atoms_spec (ws := kX1_wins :: aW) Bo.pre
  have ht : ∀ w ∈ aW, w.before _ s = true := fun w h => hts w (List.mem_cons_of_mem _ h)
  have hown : s.vm.findClass RX1 = some m.cls := findClass_of_methodNamed Bo.named
  have hlocks := Bo.notSynchronized
  have hP : va_P D clS [(od, .inr (1, [.int (nI n), .int (nI a), .int (nI (2 ^ n - 1 - a)), .ref og, .ref oy, .ref oz, .int (nI q), .int (nI d), .int (nI v), .ref ot])), (og, .inr (0, [.int (nI n), .int (nI a), .ref ob, .ref oe])), (ob, .inl (cI, (2 ^ n), .inl (fun j => nI ((sd_br Y Z q) j)))), (oe, .inl (cZ, (2 * 2 ^ n), .inl (fun j => bI ((sd_ew n a (fun w => sd_br Y Z q w == 0)) j)))), (oy, .inl (cI, 24, .inl (fun j => nI (Y j)))), (oz, .inl (cI, 24, .inl (fun j => nI (Z j)))), (ot, .inl (cI, n, .inl T))] s.heap := hP
  have hl := lv_entry ([.ref od]) (n := 1) (Nat.le_of_ble_eq_true rfl)
  rw [lg_entry_eq]
  generalize (lg_sl ([.ref od]) ++ List.replicate (1 - (lg_sl ([.ref od])).length) Slot.unset).toArray = ls at hl ⊢
  have hl : lv_has ls 1 [(0, .ref od)] := hl
  have hdn : 2 ^ d ≤ 2 ^ n := Nat.pow_le_pow_right (by decide) hd
  refine lv_aload_n hx hb dX1_wins_0 rfl (lv_at hl 0 rfl) ?_
  refine va_get (D := D) (ci := 1) (v := .ref og) (C := RX1) (T := TX1) (N := 10) hx hb ht inX1 hown hK hP 0 rfl rfl 3 (by decide) (ht _ wf_X1_game) (fun _ h9 => h9) rfl dX1_wins_1 ?_
  refine lv_aload_n hx hb dX1_wins_4 rfl (lv_at hl 0 rfl) ?_
  refine va_get (D := D) (ci := 1) (v := .int (nI d)) (C := RX1) (T := TX1) (N := 10) hx hb ht inX1 hown hK hP 0 rfl rfl 7 (by decide) (ht _ wf_X1_playDepth) (fun _ h9 => h9) rfl dX1_wins_5 ?_
  refine lv_aload_n hx hb dX1_wins_8 rfl (lv_at hl 0 rfl) ?_
  refine va_get (D := D) (ci := 1) (v := .int (nI v)) (C := RX1) (T := TX1) (N := 10) hx hb ht inX1 hown hK hP 0 rfl rfl 8 (by decide) (ht _ wf_X1_playValues) (fun _ h9 => h9) rfl dX1_wins_9 ?_
  refine hw_callR (va_runV (b := og) (As := [.int (nI d), .int (nI v)]) (rest := []) ⟨hx, hb, hml, hown, ht⟩ (c_eveWinsAt l D cI cZ og ob oe n a d v (sd_br Y Z q) (sd_ew n a (fun w => sd_br Y Z q w == 0)) hn (by omega) (by omega)) (cwV 2 ht (gV wm_X1_X0_eveWinsAt wi_X0_eveWinsAt ws_X0_eveWinsAt wn_X0 wc_X0_eveWinsAt) rfl rfl rfl (by decide +kernel) ⟨Nat.le_of_ble_eq_true rfl, Nat.le_of_ble_eq_true rfl⟩) (rPre_V 0 (hP.sub [1, 2, 3] rfl) hK hN rfl rfl) rfl rfl hl.1 rfl (lv_room (Nat.le_of_ble_eq_true rfl)) dX1_wins_12 ⟨Nat.zero_le _, Nat.zero_le _⟩) ?_
  refine lv_nm (y := bI (sd_E n a (fun w => sd_br Y Z q w == 0) d v)) (congrArg bI (sd_ew_at hv)) ?_
  exact W.zret hx hb hr (bI_nar _) (fun t ht2 _ => ⟨hw_ret (rfl), ht2⟩) (fun _ h => by cases h) dX1_wins_15

set_option maxHeartbeats 4000000 in
set_option maxRecDepth 100000 in
theorem c_best (l : Launch) (D : va_G) (cI cZ : ClassId) (od og ob oe oy oz ot n a q d v : Nat) (Y Z : Nat → Nat) (T : Nat → Int32) (ok : dOk n a q d v Y Z) : Met l yX1_best (kX1_best :: aW) { frames := 2, cells := 0, slots := 0, locals := 47 } (rPre [.ref od] D [(od, .inr (1, [.int (nI n), .int (nI a), .int (nI (2 ^ n - 1 - a)), .ref og, .ref oy, .ref oz, .int (nI q), .int (nI d), .int (nI v), .ref ot])), (og, .inr (0, [.int (nI n), .int (nI a), .ref ob, .ref oe])), (ob, .inl (cI, (2 ^ n), .inl (fun j => nI ((sd_br Y Z q) j)))), (oe, .inl (cZ, (2 * 2 ^ n), .inl (fun j => bI ((sd_ew n a (fun w => sd_br Y Z q w == 0)) j)))), (oy, .inl (cI, 24, .inl (fun j => nI (Y j)))), (oz, .inl (cI, 24, .inl (fun j => nI (Z j)))), (ot, .inl (cI, n, .inl T))] [(cI, .int), (cZ, .boolean)]) (QcRead (if d < n then bI (sd_bm n a (fun w => sd_br Y Z q w == 0) d v) else -1)) 0 0 (fun _ => False) := by
  obtain ⟨hn1, hn, ha, h5, hq, hY, hZ, hd, hv⟩ := id ok
  have h2n := hw_p10 hn
  refine Met.ofW (cc := cX1_best) (maxL := 1) (ret := (some .int)) (by decide) rfl ?_
  intro p e s m args below meth c s₁ Bo hml hpre
  obtain ⟨rfl, hP, hK, hN⟩ := hpre
  have hx := Bo.exec
  have hb := Bo.bytes
  have hr := Bo.returns
  have hts := atoms_spec (ws := kX1_best :: aW) Bo.pre
  have ht : ∀ w ∈ aW, w.before _ s = true := fun w h => hts w (List.mem_cons_of_mem _ h)
  have hown : s.vm.findClass RX1 = some m.cls := findClass_of_methodNamed Bo.named
  have hlocks := Bo.notSynchronized
  have hP : va_P D clS [(od, .inr (1, [.int (nI n), .int (nI a), .int (nI (2 ^ n - 1 - a)), .ref og, .ref oy, .ref oz, .int (nI q), .int (nI d), .int (nI v), .ref ot])), (og, .inr (0, [.int (nI n), .int (nI a), .ref ob, .ref oe])), (ob, .inl (cI, (2 ^ n), .inl (fun j => nI ((sd_br Y Z q) j)))), (oe, .inl (cZ, (2 * 2 ^ n), .inl (fun j => bI ((sd_ew n a (fun w => sd_br Y Z q w == 0)) j)))), (oy, .inl (cI, 24, .inl (fun j => nI (Y j)))), (oz, .inl (cI, 24, .inl (fun j => nI (Z j)))), (ot, .inl (cI, n, .inl T))] s.heap := hP
  have hl := lv_entry ([.ref od]) (n := 1) (Nat.le_of_ble_eq_true rfl)
  rw [lg_entry_eq]
  generalize (lg_sl ([.ref od]) ++ List.replicate (1 - (lg_sl ([.ref od])).length) Slot.unset).toArray = ls at hl ⊢
  have hl : lv_has ls 1 [(0, .ref od)] := hl
  refine lv_aload_n hx hb dX1_best_0 rfl (lv_at hl 0 rfl) ?_
  refine va_get (D := D) (ci := 1) (v := .int (nI d)) (C := RX1) (T := TX1) (N := 10) hx hb ht inX1 hown hK hP 0 rfl rfl 7 (by decide) (ht _ wf_X1_playDepth) (fun _ h9 => h9) rfl dX1_best_1 ?_
  refine lv_aload_n hx hb dX1_best_4 rfl (lv_at hl 0 rfl) ?_
  refine va_get (D := D) (ci := 1) (v := .int (nI n)) (C := RX1) (T := TX1) (N := 10) hx hb ht inX1 hown hK hP 0 rfl rfl 0 (by decide) (ht _ wf_X1_size) (fun _ h9 => h9) rfl dX1_best_5 ?_
  refine lv_icmp_lt (tgt := 15) hx hb dX1_best_8 rfl (fun hc => ?_) (fun hc => ?_)
  · have hc : d < n := (nI_ltI (by omega) (by omega)).mp hc
    refine lv_aload_n hx hb dX1_best_15 rfl (lv_at hl 0 rfl) ?_
    refine va_get (D := D) (ci := 1) (v := .ref og) (C := RX1) (T := TX1) (N := 10) hx hb ht inX1 hown hK hP 0 rfl rfl 3 (by decide) (ht _ wf_X1_game) (fun _ h9 => h9) rfl dX1_best_16 ?_
    refine lv_aload_n hx hb dX1_best_19 rfl (lv_at hl 0 rfl) ?_
    refine va_get (D := D) (ci := 1) (v := .int (nI d)) (C := RX1) (T := TX1) (N := 10) hx hb ht inX1 hown hK hP 0 rfl rfl 7 (by decide) (ht _ wf_X1_playDepth) (fun _ h9 => h9) rfl dX1_best_20 ?_
    refine lv_aload_n hx hb dX1_best_23 rfl (lv_at hl 0 rfl) ?_
    refine va_get (D := D) (ci := 1) (v := .int (nI v)) (C := RX1) (T := TX1) (N := 10) hx hb ht inX1 hown hK hP 0 rfl rfl 8 (by decide) (ht _ wf_X1_playValues) (fun _ h9 => h9) rfl dX1_best_24 ?_
    refine hw_callR (va_runV (b := og) (As := [.int (nI d), .int (nI v)]) (rest := []) ⟨hx, hb, hml, hown, ht⟩ (c_bestMove l D cI cZ og ob oe n a d v (sd_br Y Z q) (fun w => sd_br Y Z q w == 0) hn ha (by omega) hv) (cwV 2 ht (gV wm_X1_X0_bestMove wi_X0_bestMove ws_X0_bestMove wn_X0 wc_X0_bestMove) rfl rfl rfl (by decide +kernel) ⟨Nat.le_of_ble_eq_true rfl, Nat.le_of_ble_eq_true rfl⟩) (rPre_V 0 (hP.sub [1, 2, 3] rfl) hK hN rfl rfl) rfl rfl hl.1 rfl (lv_room (Nat.le_of_ble_eq_true rfl)) dX1_best_27 ⟨Nat.zero_le _, Nat.zero_le _⟩) ?_
    exact W.iret hx hb hr (fun t ht2 _ => ⟨hw_ret ((if_pos (by omega)).symm), ht2⟩) (fun _ h => by cases h) dX1_best_30
  · have hc : ¬ (d < n) := fun h9 => hc ((nI_ltI (by omega) (by omega)).mpr h9)
    refine lv_iconst (v := (-1)) hx hb dX1_best_11 (by decide) ?_
    refine lv_goto (tgt := 30) hx hb dX1_best_12 rfl ?_
    exact W.iret hx hb hr (fun t ht2 _ => ⟨hw_ret ((if_neg (by omega)).symm), ht2⟩) (fun _ h => by cases h) dX1_best_30

set_option maxHeartbeats 4000000 in
set_option maxRecDepth 100000 in
theorem c_valuesWithBest (l : Launch) (D : va_G) (cI cZ : ClassId) (od og ob oe oy oz ot n a q d v : Nat) (Y Z : Nat → Nat) (T : Nat → Int32) (ok : dOk n a q d v Y Z) (mv : Nat) (td : Int32) (hmv : mv < 2 ^ 32) : Met l yX1_valuesWithBest (kX1_valuesWithBest :: aW) { frames := 2, cells := 0, slots := 0, locals := 47 } (rPre [.ref od, .int (nI mv), .int td] D [(od, .inr (1, [.int (nI n), .int (nI a), .int (nI (2 ^ n - 1 - a)), .ref og, .ref oy, .ref oz, .int (nI q), .int (nI d), .int (nI v), .ref ot])), (og, .inr (0, [.int (nI n), .int (nI a), .ref ob, .ref oe])), (ob, .inl (cI, (2 ^ n), .inl (fun j => nI ((sd_br Y Z q) j)))), (oe, .inl (cZ, (2 * 2 ^ n), .inl (fun j => bI ((sd_ew n a (fun w => sd_br Y Z q w == 0)) j)))), (oy, .inl (cI, 24, .inl (fun j => nI (Y j)))), (oz, .inl (cI, 24, .inl (fun j => nI (Z j)))), (ot, .inl (cI, n, .inl T))] [(cI, .int), (cZ, .boolean)]) (QcRead (nI (sd_ac (sd_vb n a (fun w => sd_br Y Z q w == 0) mv (uN td)) n))) 0 0 (fun _ => False) := by
  obtain ⟨hn1, hn, ha, h5, hq, hY, hZ, hd, hv⟩ := id ok
  have h2n := hw_p10 hn
  refine Met.ofW (cc := cX1_valuesWithBest) (maxL := 6) (ret := (some .int)) (by decide) rfl ?_
  intro p e s m args below meth c s₁ Bo hml hpre
  obtain ⟨rfl, hP, hK, hN⟩ := hpre
  have hx := Bo.exec
  have hb := Bo.bytes
  have hr := Bo.returns
  have hts := atoms_spec (ws := kX1_valuesWithBest :: aW) Bo.pre
  have ht : ∀ w ∈ aW, w.before _ s = true := fun w h => hts w (List.mem_cons_of_mem _ h)
  have hown : s.vm.findClass RX1 = some m.cls := findClass_of_methodNamed Bo.named
  have hlocks := Bo.notSynchronized
  have hP : va_P D clS [(od, .inr (1, [.int (nI n), .int (nI a), .int (nI (2 ^ n - 1 - a)), .ref og, .ref oy, .ref oz, .int (nI q), .int (nI d), .int (nI v), .ref ot])), (og, .inr (0, [.int (nI n), .int (nI a), .ref ob, .ref oe])), (ob, .inl (cI, (2 ^ n), .inl (fun j => nI ((sd_br Y Z q) j)))), (oe, .inl (cZ, (2 * 2 ^ n), .inl (fun j => bI ((sd_ew n a (fun w => sd_br Y Z q w == 0)) j)))), (oy, .inl (cI, 24, .inl (fun j => nI (Y j)))), (oz, .inl (cI, 24, .inl (fun j => nI (Z j)))), (ot, .inl (cI, n, .inl T))] s.heap := hP
  have hl := lv_entry ([.ref od, .int (nI mv), .int td]) (n := 6) (Nat.le_of_ble_eq_true rfl)
  rw [lg_entry_eq]
  generalize (lg_sl ([.ref od, .int (nI mv), .int td]) ++ List.replicate (6 - (lg_sl ([.ref od, .int (nI mv), .int td])).length) Slot.unset).toArray = ls at hl ⊢
  have hl : lv_has ls 6 [(0, .ref od), (1, .int (nI mv)), (2, .int td)] := hl
  refine lv_iconst (v := nI 0) hx hb dX1_valuesWithBest_0 (by decide) ?_
  refine lv_istore_n hx hb dX1_valuesWithBest_1 rfl hl (by decide) rfl (fun ls hl => ?_)
  have hl : lv_has ls 6 [(3, .int (nI 0)), (0, .ref od), (1, .int (nI mv)), (2, .int td)] := hl
  refine lv_iconst (v := nI 0) hx hb dX1_valuesWithBest_2 (by decide) ?_
  refine lv_istore hx hb dX1_valuesWithBest_3 hl (by decide) rfl (fun ls hl => ?_)
  have hl : lv_has ls 6 [(4, .int (nI 0)), (3, .int (nI 0)), (0, .ref od), (1, .int (nI mv)), (2, .int td)] := hl
  have hl : lv_has ls 6 [(0, .ref od), (1, .int (nI mv)), (2, .int td), (3, .int (nI 0)), (4, .int (nI 0))] := lv_sub hl [2, 3, 4, 1, 0] rfl
  suffices lp : ∀ k : Nat, ∀ (i : Nat) (ls : Array Slot), (i + k = n) → lv_has ls 6 [(0, .ref od), (1, .int (nI mv)), (2, .int td), (3, .int (nI (sd_ac (sd_vb n a (fun w => sd_br Y Z q w == 0) mv (uN td)) i))), (4, .int (nI i))] → W p l e (headSpec (kX1_valuesWithBest :: aW) { frames := 2, cells := 0, slots := 0, locals := 47 }).room s m (([.ref od, .int (nI mv), .int td] : List Value).toArray) below meth c s.heap [] 0 0 (MQ below (QcRead (nI (sd_ac (sd_vb n a (fun w => sd_br Y Z q w == 0) mv (uN td)) n))) (([.ref od, .int (nI mv), .int td] : List Value).toArray) s 0 0 (fun _ => False)) (F0 m 5 ls []) by
    exact lp n 0 ls (by omega) hl
  intro k
  induction k with
  | zero =>
    intro i ls hi hl
    refine lv_iload hx hb dX1_valuesWithBest_5 (lv_at hl 4 rfl) ?_
    refine lv_aload_n hx hb dX1_valuesWithBest_7 rfl (lv_at hl 0 rfl) ?_
    refine va_get (D := D) (ci := 1) (v := .int (nI n)) (C := RX1) (T := TX1) (N := 10) hx hb ht inX1 hown hK hP 0 rfl rfl 0 (by decide) (ht _ wf_X1_size) (fun _ h9 => h9) rfl dX1_valuesWithBest_8 ?_
    refine lv_icmp_ge (tgt := 59) hx hb dX1_valuesWithBest_11 rfl (fun _ => ?_) (fun hc => absurd (show ¬ (n ≤ i) from fun h9 => hc ((nI_leI (by omega) (by omega)).mpr h9)) (by omega))
    refine lv_iload_n hx hb dX1_valuesWithBest_59 rfl (lv_at hl 3 rfl) ?_
    exact W.iret hx hb hr (fun t ht2 _ => ⟨hw_ret (by rw [show i = n by omega]), ht2⟩) (fun _ h => by cases h) dX1_valuesWithBest_60
  | succ k ih =>
    intro i ls hi hl
    have hac := sd_ac_lt (sd_vb n a (fun w => sd_br Y Z q w == 0) mv (uN td)) i
    have h2i : 2 ^ i ≤ 2 ^ n := Nat.pow_le_pow_right (by decide) (by omega)
    refine lv_iload hx hb dX1_valuesWithBest_5 (lv_at hl 4 rfl) ?_
    refine lv_aload_n hx hb dX1_valuesWithBest_7 rfl (lv_at hl 0 rfl) ?_
    refine va_get (D := D) (ci := 1) (v := .int (nI n)) (C := RX1) (T := TX1) (N := 10) hx hb ht inX1 hown hK hP 0 rfl rfl 0 (by decide) (ht _ wf_X1_size) (fun _ h9 => h9) rfl dX1_valuesWithBest_8 ?_
    refine lv_icmp_ge (tgt := 59) hx hb dX1_valuesWithBest_11 rfl (fun hc => absurd (show n ≤ i from (nI_leI (by omega) (by omega)).mp hc) (by omega)) (fun _ => ?_)
    refine lv_iload_n hx hb dX1_valuesWithBest_14 rfl (lv_at hl 1 rfl) ?_
    refine lv_iload hx hb dX1_valuesWithBest_15 (lv_at hl 4 rfl) ?_
    refine hw_callR (va_runS (As := [.int (nI mv), .int (nI i)]) (rest := []) ⟨hx, hb, hml, hown, ht⟩ (c_bitn l D cI cZ mv i hmv (by omega)) (va_cwS 2 ht (gS wm_X1_X1_bit wt_X1_bit wn_X1 wc_X1_bit) rfl rfl rfl (by decide +kernel) ⟨Nat.le_of_ble_eq_true rfl, Nat.le_of_ble_eq_true rfl⟩) (rPre_S (hP.sub [] rfl) hK hN) rfl rfl hl.1 rfl (lv_room (Nat.le_of_ble_eq_true rfl)) dX1_valuesWithBest_17 ⟨Nat.zero_le _, Nat.zero_le _⟩) ?_
    refine lv_iconst (v := nI 1) hx hb dX1_valuesWithBest_20 (by decide) ?_
    suffices mk : W p l e (headSpec (kX1_valuesWithBest :: aW) { frames := 2, cells := 0, slots := 0, locals := 47 }).room s m (([.ref od, .int (nI mv), .int td] : List Value).toArray) below meth c s.heap [] 0 0 (MQ below (QcRead (nI (sd_ac (sd_vb n a (fun w => sd_br Y Z q w == 0) mv (uN td)) n))) (([.ref od, .int (nI mv), .int td] : List Value).toArray) s 0 0 (fun _ => False)) (F0 m 43 ls [.int (bI (sd_vb n a (fun w => sd_br Y Z q w == 0) mv (uN td) i (sd_ac (sd_vb n a (fun w => sd_br Y Z q w == 0) mv (uN td)) i)))]) by
      refine lv_icmp_ne (tgt := 37) hx hb dX1_valuesWithBest_21 rfl (fun h1 => ?_) (fun h1 => ?_)
      · have h1 : (mv.testBit i) = false := bI_ne1 h1
        refine lv_iload_n hx hb dX1_valuesWithBest_37 rfl (lv_at hl 2 rfl) ?_
        refine lv_iload hx hb dX1_valuesWithBest_38 (lv_at hl 4 rfl) ?_
        refine hw_callR (va_runS (As := [.int td, .int (nI i)]) (rest := []) ⟨hx, hb, hml, hown, ht⟩ (c_bit l D cI cZ td i (by omega)) (va_cwS 2 ht (gS wm_X1_X1_bit wt_X1_bit wn_X1 wc_X1_bit) rfl rfl rfl (by decide +kernel) ⟨Nat.le_of_ble_eq_true rfl, Nat.le_of_ble_eq_true rfl⟩) (rPre_S (hP.sub [] rfl) hK hN) rfl rfl hl.1 rfl (lv_room (Nat.le_of_ble_eq_true rfl)) dX1_valuesWithBest_40 ⟨Nat.zero_le _, Nat.zero_le _⟩) ?_
        refine lv_nm (y := bI (sd_vb n a (fun w => sd_br Y Z q w == 0) mv (uN td) i (sd_ac (sd_vb n a (fun w => sd_br Y Z q w == 0) mv (uN td)) i))) (congrArg bI (if_neg (by rw [h1]; decide)).symm) ?_
        exact mk
      · have h1 : (mv.testBit i) = true := (bI_eq1 _).mp h1
        refine lv_aload_n hx hb dX1_valuesWithBest_24 rfl (lv_at hl 0 rfl) ?_
        refine va_get (D := D) (ci := 1) (v := .ref og) (C := RX1) (T := TX1) (N := 10) hx hb ht inX1 hown hK hP 0 rfl rfl 3 (by decide) (ht _ wf_X1_game) (fun _ h9 => h9) rfl dX1_valuesWithBest_25 ?_
        refine lv_iload hx hb dX1_valuesWithBest_28 (lv_at hl 4 rfl) ?_
        refine lv_iload_n hx hb dX1_valuesWithBest_30 rfl (lv_at hl 3 rfl) ?_
        refine hw_callR (va_runV (b := og) (As := [.int (nI i), .int (nI (sd_ac (sd_vb n a (fun w => sd_br Y Z q w == 0) mv (uN td)) i))]) (rest := []) ⟨hx, hb, hml, hown, ht⟩ (c_bestMove l D cI cZ og ob oe n a i (sd_ac (sd_vb n a (fun w => sd_br Y Z q w == 0) mv (uN td)) i) (sd_br Y Z q) (fun w => sd_br Y Z q w == 0) hn ha (by omega) hac) (cwV 2 ht (gV wm_X1_X0_bestMove wi_X0_bestMove ws_X0_bestMove wn_X0 wc_X0_bestMove) rfl rfl rfl (by decide +kernel) ⟨Nat.le_of_ble_eq_true rfl, Nat.le_of_ble_eq_true rfl⟩) (rPre_V 0 (hP.sub [1, 2, 3] rfl) hK hN rfl rfl) rfl rfl hl.1 rfl (lv_room (Nat.le_of_ble_eq_true rfl)) dX1_valuesWithBest_31 ⟨Nat.zero_le _, Nat.zero_le _⟩) ?_
        refine lv_nm (y := bI (sd_vb n a (fun w => sd_br Y Z q w == 0) mv (uN td) i (sd_ac (sd_vb n a (fun w => sd_br Y Z q w == 0) mv (uN td)) i))) (congrArg bI (if_pos h1).symm) ?_
        refine lv_goto (tgt := 43) hx hb dX1_valuesWithBest_34 rfl ?_
        exact mk
    refine lv_istore hx hb dX1_valuesWithBest_43 hl (by decide) rfl (fun ls hl => ?_)
    have hl : lv_has ls 6 [(5, .int (bI (sd_vb n a (fun w => sd_br Y Z q w == 0) mv (uN td) i (sd_ac (sd_vb n a (fun w => sd_br Y Z q w == 0) mv (uN td)) i)))), (0, .ref od), (1, .int (nI mv)), (2, .int td), (3, .int (nI (sd_ac (sd_vb n a (fun w => sd_br Y Z q w == 0) mv (uN td)) i))), (4, .int (nI i))] := hl
    refine lv_iload_n hx hb dX1_valuesWithBest_45 rfl (lv_at hl 4 rfl) ?_
    refine lv_iload hx hb dX1_valuesWithBest_46 (lv_at hl 0 rfl) ?_
    refine lv_iload hx hb dX1_valuesWithBest_48 (lv_at hl 5 rfl) ?_
    refine lv_ishl hx hb dX1_valuesWithBest_50 ?_
    refine lv_nm (y := nI ((sd_vb n a (fun w => sd_br Y Z q w == 0) mv (uN td) i (sd_ac (sd_vb n a (fun w => sd_br Y Z q w == 0) mv (uN td)) i)).toNat * 2 ^ i)) (hw_bshl _ (by omega)) ?_
    refine lv_ior hx hb dX1_valuesWithBest_51 ?_
    refine lv_nm (y := nI ((sd_ac (sd_vb n a (fun w => sd_br Y Z q w == 0) mv (uN td)) i) ||| ((sd_vb n a (fun w => sd_br Y Z q w == 0) mv (uN td) i (sd_ac (sd_vb n a (fun w => sd_br Y Z q w == 0) mv (uN td)) i)).toNat * 2 ^ i))) (hw_or _ _) ?_
    refine lv_nm (y := nI (sd_ac (sd_vb n a (fun w => sd_br Y Z q w == 0) mv (uN td)) (i + 1))) (congrArg nI (hw_orb (sd_ac_hi _ (Nat.le_refl i)) _)) ?_
    refine lv_istore_n hx hb dX1_valuesWithBest_52 rfl hl (by decide) rfl (fun ls hl => ?_)
    have hl : lv_has ls 6 [(3, .int (nI (sd_ac (sd_vb n a (fun w => sd_br Y Z q w == 0) mv (uN td)) (i + 1)))), (5, .int (bI (sd_vb n a (fun w => sd_br Y Z q w == 0) mv (uN td) i (sd_ac (sd_vb n a (fun w => sd_br Y Z q w == 0) mv (uN td)) i)))), (0, .ref od), (1, .int (nI mv)), (2, .int td), (4, .int (nI i))] := hl
    refine lv_iinc (k := 5) (v := nI (i + 1)) hx hb dX1_valuesWithBest_53 hl rfl (hw_inc _) (by decide) rfl (fun ls hl => ?_)
    have hl : lv_has ls 6 [(4, .int (nI (i + 1))), (3, .int (nI (sd_ac (sd_vb n a (fun w => sd_br Y Z q w == 0) mv (uN td)) (i + 1)))), (5, .int (bI (sd_vb n a (fun w => sd_br Y Z q w == 0) mv (uN td) i (sd_ac (sd_vb n a (fun w => sd_br Y Z q w == 0) mv (uN td)) i)))), (0, .ref od), (1, .int (nI mv)), (2, .int td)] := hl
    refine lv_goto (tgt := 5) hx hb dX1_valuesWithBest_56 rfl ?_
    have hl : lv_has ls 6 [(0, .ref od), (1, .int (nI mv)), (2, .int td), (3, .int (nI (sd_ac (sd_vb n a (fun w => sd_br Y Z q w == 0) mv (uN td)) (i + 1)))), (4, .int (nI (i + 1)))] := lv_sub hl [3, 4, 5, 1, 0] rfl
    exact ih (i + 1) ls (by omega) hl

set_option maxHeartbeats 4000000 in
set_option maxRecDepth 100000 in
theorem c_adamValues (l : Launch) (D : va_G) (cI cZ : ClassId) (od og ob oe oy oz ot n a q d v : Nat) (Y Z : Nat → Nat) (T : Nat → Int32) (ok : dOk n a q d v Y Z) (sm : Nat) (hsm : sm < 32) : Met l yX1_adamValues (kX1_adamValues :: aW) { frames := 1, cells := 0, slots := 0, locals := 21 } (rPre [.ref od, .int (nI sm)] D [(od, .inr (1, [.int (nI n), .int (nI a), .int (nI (2 ^ n - 1 - a)), .ref og, .ref oy, .ref oz, .int (nI q), .int (nI d), .int (nI v), .ref ot])), (og, .inr (0, [.int (nI n), .int (nI a), .ref ob, .ref oe])), (ob, .inl (cI, (2 ^ n), .inl (fun j => nI ((sd_br Y Z q) j)))), (oe, .inl (cZ, (2 * 2 ^ n), .inl (fun j => bI ((sd_ew n a (fun w => sd_br Y Z q w == 0)) j)))), (oy, .inl (cI, 24, .inl (fun j => nI (Y j)))), (oz, .inl (cI, 24, .inl (fun j => nI (Z j)))), (ot, .inl (cI, n, .inl T))] [(cI, .int), (cZ, .boolean)]) (QcRead (nI (sd_ac (sd_li a (fun _ _ => false) sm) n))) 0 0 (fun _ => False) := by
  obtain ⟨hn1, hn, ha, h5, hq, hY, hZ, hd, hv⟩ := id ok
  have h2n := hw_p10 hn
  refine Met.ofW (cc := cX1_adamValues) (maxL := 5) (ret := (some .int)) (by decide) rfl ?_
  intro p e s m args below meth c s₁ Bo hml hpre
  obtain ⟨rfl, hP, hK, hN⟩ := hpre
  have hx := Bo.exec
  have hb := Bo.bytes
  have hr := Bo.returns
  have hts := atoms_spec (ws := kX1_adamValues :: aW) Bo.pre
  have ht : ∀ w ∈ aW, w.before _ s = true := fun w h => hts w (List.mem_cons_of_mem _ h)
  have hown : s.vm.findClass RX1 = some m.cls := findClass_of_methodNamed Bo.named
  have hlocks := Bo.notSynchronized
  have hP : va_P D clS [(od, .inr (1, [.int (nI n), .int (nI a), .int (nI (2 ^ n - 1 - a)), .ref og, .ref oy, .ref oz, .int (nI q), .int (nI d), .int (nI v), .ref ot])), (og, .inr (0, [.int (nI n), .int (nI a), .ref ob, .ref oe])), (ob, .inl (cI, (2 ^ n), .inl (fun j => nI ((sd_br Y Z q) j)))), (oe, .inl (cZ, (2 * 2 ^ n), .inl (fun j => bI ((sd_ew n a (fun w => sd_br Y Z q w == 0)) j)))), (oy, .inl (cI, 24, .inl (fun j => nI (Y j)))), (oz, .inl (cI, 24, .inl (fun j => nI (Z j)))), (ot, .inl (cI, n, .inl T))] s.heap := hP
  have hl := lv_entry ([.ref od, .int (nI sm)]) (n := 5) (Nat.le_of_ble_eq_true rfl)
  rw [lg_entry_eq]
  generalize (lg_sl ([.ref od, .int (nI sm)]) ++ List.replicate (5 - (lg_sl ([.ref od, .int (nI sm)])).length) Slot.unset).toArray = ls at hl ⊢
  have hl : lv_has ls 5 [(0, .ref od), (1, .int (nI sm))] := hl
  refine lv_iconst (v := nI 0) hx hb dX1_adamValues_0 (by decide) ?_
  refine lv_istore_n hx hb dX1_adamValues_1 rfl hl (by decide) rfl (fun ls hl => ?_)
  have hl : lv_has ls 5 [(2, .int (nI 0)), (0, .ref od), (1, .int (nI sm))] := hl
  refine lv_iconst (v := nI 0) hx hb dX1_adamValues_2 (by decide) ?_
  refine lv_istore_n hx hb dX1_adamValues_3 rfl hl (by decide) rfl (fun ls hl => ?_)
  have hl : lv_has ls 5 [(3, .int (nI 0)), (2, .int (nI 0)), (0, .ref od), (1, .int (nI sm))] := hl
  refine lv_iconst (v := nI 0) hx hb dX1_adamValues_4 (by decide) ?_
  refine lv_istore hx hb dX1_adamValues_5 hl (by decide) rfl (fun ls hl => ?_)
  have hl : lv_has ls 5 [(4, .int (nI 0)), (3, .int (nI 0)), (2, .int (nI 0)), (0, .ref od), (1, .int (nI sm))] := hl
  have hl : lv_has ls 5 [(0, .ref od), (1, .int (nI sm)), (2, .int (nI 0)), (3, .int (nI 0)), (4, .int (nI 0))] := lv_sub hl [3, 4, 2, 1, 0] rfl
  suffices lp : ∀ k : Nat, ∀ (i : Nat) (ls : Array Slot), (i + k = n) → lv_has ls 5 [(0, .ref od), (1, .int (nI sm)), (2, .int (nI (sd_ac (sd_li a (fun _ _ => false) sm) i))), (3, .int (nI (sd_ct a i))), (4, .int (nI i))] → W p l e (headSpec (kX1_adamValues :: aW) { frames := 1, cells := 0, slots := 0, locals := 21 }).room s m (([.ref od, .int (nI sm)] : List Value).toArray) below meth c s.heap [] 0 0 (MQ below (QcRead (nI (sd_ac (sd_li a (fun _ _ => false) sm) n))) (([.ref od, .int (nI sm)] : List Value).toArray) s 0 0 (fun _ => False)) (F0 m 7 ls []) by
    exact lp n 0 ls (by omega) hl
  intro k
  induction k with
  | zero =>
    intro i ls hi hl
    refine lv_iload hx hb dX1_adamValues_7 (lv_at hl 4 rfl) ?_
    refine lv_aload_n hx hb dX1_adamValues_9 rfl (lv_at hl 0 rfl) ?_
    refine va_get (D := D) (ci := 1) (v := .int (nI n)) (C := RX1) (T := TX1) (N := 10) hx hb ht inX1 hown hK hP 0 rfl rfl 0 (by decide) (ht _ wf_X1_size) (fun _ h9 => h9) rfl dX1_adamValues_10 ?_
    refine lv_icmp_ge (tgt := 49) hx hb dX1_adamValues_13 rfl (fun _ => ?_) (fun hc => absurd (show ¬ (n ≤ i) from fun h9 => hc ((nI_leI (by omega) (by omega)).mpr h9)) (by omega))
    refine lv_iload_n hx hb dX1_adamValues_49 rfl (lv_at hl 2 rfl) ?_
    exact W.iret hx hb hr (fun t ht2 _ => ⟨hw_ret (by rw [show i = n by omega]), ht2⟩) (fun _ h => by cases h) dX1_adamValues_50
  | succ k ih =>
    intro i ls hi hl
    have hac := sd_ac_lt (sd_li a (fun _ _ => false) sm) i
    have h2i : 2 ^ i ≤ 2 ^ n := Nat.pow_le_pow_right (by decide) (by omega)
    have hct := sd_ct_mono a (v := i) (w := n) (by omega)
    refine lv_iload hx hb dX1_adamValues_7 (lv_at hl 4 rfl) ?_
    refine lv_aload_n hx hb dX1_adamValues_9 rfl (lv_at hl 0 rfl) ?_
    refine va_get (D := D) (ci := 1) (v := .int (nI n)) (C := RX1) (T := TX1) (N := 10) hx hb ht inX1 hown hK hP 0 rfl rfl 0 (by decide) (ht _ wf_X1_size) (fun _ h9 => h9) rfl dX1_adamValues_10 ?_
    refine lv_icmp_ge (tgt := 49) hx hb dX1_adamValues_13 rfl (fun hc => absurd (show n ≤ i from (nI_leI (by omega) (by omega)).mp hc) (by omega)) (fun _ => ?_)
    refine lv_aload_n hx hb dX1_adamValues_16 rfl (lv_at hl 0 rfl) ?_
    refine va_get (D := D) (ci := 1) (v := .int (nI a)) (C := RX1) (T := TX1) (N := 10) hx hb ht inX1 hown hK hP 0 rfl rfl 1 (by decide) (ht _ wf_X1_adamSet) (fun _ h9 => h9) rfl dX1_adamValues_17 ?_
    refine lv_iload hx hb dX1_adamValues_20 (lv_at hl 4 rfl) ?_
    refine hw_callR (va_runS (As := [.int (nI a), .int (nI i)]) (rest := []) ⟨hx, hb, hml, hown, ht⟩ (c_bitn l D cI cZ a i (by omega) (by omega)) (va_cwS 2 ht (gS wm_X1_X1_bit wt_X1_bit wn_X1 wc_X1_bit) rfl rfl rfl (by decide +kernel) ⟨Nat.le_of_ble_eq_true rfl, Nat.le_of_ble_eq_true rfl⟩) (rPre_S (hP.sub [] rfl) hK hN) rfl rfl hl.1 rfl (lv_room (Nat.le_of_ble_eq_true rfl)) dX1_adamValues_22 ⟨Nat.zero_le _, Nat.zero_le _⟩) ?_
    refine lv_iconst (v := nI 1) hx hb dX1_adamValues_25 (by decide) ?_
    refine lv_icmp_ne (tgt := 43) hx hb dX1_adamValues_26 rfl (fun h1 => ?_) (fun h1 => ?_)
    · have h1 : (a.testBit i) = false := bI_ne1 h1
      have hl : lv_has ls 5 [(0, .ref od), (1, .int (nI sm)), (2, .int (nI (sd_ac (sd_li a (fun _ _ => false) sm) (i + 1)))), (3, .int (nI (sd_ct a i))), (4, .int (nI i))] := by rw [show nI (sd_ac (sd_li a (fun _ _ => false) sm) (i + 1)) = nI (sd_ac (sd_li a (fun _ _ => false) sm) i) from congrArg nI (by show sd_ac (sd_li a (fun _ _ => false) sm) i + (sd_li a (fun _ _ => false) sm i (sd_ac (sd_li a (fun _ _ => false) sm) i)).toNat * 2 ^ i = _; rw [sd_li_e h1]; simp)]; exact hl
      have hl : lv_has ls 5 [(0, .ref od), (1, .int (nI sm)), (2, .int (nI (sd_ac (sd_li a (fun _ _ => false) sm) (i + 1)))), (3, .int (nI (sd_ct a (i + 1)))), (4, .int (nI i))] := by rw [show nI (sd_ct a (i + 1)) = nI (sd_ct a i) from congrArg nI (by show sd_ct a i + (a.testBit i).toNat = _; rw [h1]; rfl)]; exact hl
      refine lv_iinc (k := 4) (v := nI (i + 1)) hx hb dX1_adamValues_43 hl rfl (hw_inc _) (by decide) rfl (fun ls hl => ?_)
      have hl : lv_has ls 5 [(4, .int (nI (i + 1))), (0, .ref od), (1, .int (nI sm)), (2, .int (nI (sd_ac (sd_li a (fun _ _ => false) sm) (i + 1)))), (3, .int (nI (sd_ct a (i + 1))))] := hl
      refine lv_goto (tgt := 7) hx hb dX1_adamValues_46 rfl ?_
      have hl : lv_has ls 5 [(0, .ref od), (1, .int (nI sm)), (2, .int (nI (sd_ac (sd_li a (fun _ _ => false) sm) (i + 1)))), (3, .int (nI (sd_ct a (i + 1)))), (4, .int (nI (i + 1)))] := lv_sub hl [1, 2, 3, 4, 0] rfl
      exact ih (i + 1) ls (by omega) hl
    · have h1 : (a.testBit i) = true := (bI_eq1 _).mp h1
      have e1 : sd_li a (fun _ _ => false) sm i (sd_ac (sd_li a (fun _ _ => false) sm) i) = sm.testBit (sd_ct a i) := sd_li_a h1
      refine lv_iload_n hx hb dX1_adamValues_29 rfl (lv_at hl 2 rfl) ?_
      refine lv_iload_n hx hb dX1_adamValues_30 rfl (lv_at hl 1 rfl) ?_
      refine lv_iload_n hx hb dX1_adamValues_31 rfl (lv_at hl 3 rfl) ?_
      refine hw_callR (va_runS (As := [.int (nI sm), .int (nI (sd_ct a i))]) (rest := [.int (nI (sd_ac (sd_li a (fun _ _ => false) sm) i))]) ⟨hx, hb, hml, hown, ht⟩ (c_bitn l D cI cZ sm (sd_ct a i) (by omega) (by omega)) (va_cwS 2 ht (gS wm_X1_X1_bit wt_X1_bit wn_X1 wc_X1_bit) rfl rfl rfl (by decide +kernel) ⟨Nat.le_of_ble_eq_true rfl, Nat.le_of_ble_eq_true rfl⟩) (rPre_S (hP.sub [] rfl) hK hN) rfl rfl hl.1 rfl (lv_room (Nat.le_of_ble_eq_true rfl)) dX1_adamValues_32 ⟨Nat.zero_le _, Nat.zero_le _⟩) ?_
      refine lv_iload hx hb dX1_adamValues_35 (lv_at hl 4 rfl) ?_
      refine lv_ishl hx hb dX1_adamValues_37 ?_
      refine lv_nm (y := nI ((sm.testBit (sd_ct a i)).toNat * 2 ^ i)) (hw_bshl _ (by omega)) ?_
      refine lv_ior hx hb dX1_adamValues_38 ?_
      refine lv_nm (y := nI ((sd_ac (sd_li a (fun _ _ => false) sm) i) ||| ((sm.testBit (sd_ct a i)).toNat * 2 ^ i))) (hw_or _ _) ?_
      refine lv_nm (y := nI (sd_ac (sd_li a (fun _ _ => false) sm) (i + 1))) (by rw [hw_orb (sd_ac_hi _ (Nat.le_refl i))]; show _ = nI (sd_ac (sd_li a (fun _ _ => false) sm) i + (sd_li a (fun _ _ => false) sm i (sd_ac (sd_li a (fun _ _ => false) sm) i)).toNat * 2 ^ i); rw [e1]) ?_
      refine lv_istore_n hx hb dX1_adamValues_39 rfl hl (by decide) rfl (fun ls hl => ?_)
      have hl : lv_has ls 5 [(2, .int (nI (sd_ac (sd_li a (fun _ _ => false) sm) (i + 1)))), (0, .ref od), (1, .int (nI sm)), (3, .int (nI (sd_ct a i))), (4, .int (nI i))] := hl
      refine lv_iinc (k := 3) (v := nI (sd_ct a (i + 1))) hx hb dX1_adamValues_40 hl rfl ((hw_inc _).trans (by show _ = nI (sd_ct a i + (a.testBit i).toNat); rw [h1]; rfl)) (by decide) rfl (fun ls hl => ?_)
      have hl : lv_has ls 5 [(3, .int (nI (sd_ct a (i + 1)))), (2, .int (nI (sd_ac (sd_li a (fun _ _ => false) sm) (i + 1)))), (0, .ref od), (1, .int (nI sm)), (4, .int (nI i))] := hl
      refine lv_iinc (k := 4) (v := nI (i + 1)) hx hb dX1_adamValues_43 hl rfl (hw_inc _) (by decide) rfl (fun ls hl => ?_)
      have hl : lv_has ls 5 [(4, .int (nI (i + 1))), (3, .int (nI (sd_ct a (i + 1)))), (2, .int (nI (sd_ac (sd_li a (fun _ _ => false) sm) (i + 1)))), (0, .ref od), (1, .int (nI sm))] := hl
      refine lv_goto (tgt := 7) hx hb dX1_adamValues_46 rfl ?_
      have hl : lv_has ls 5 [(0, .ref od), (1, .int (nI sm)), (2, .int (nI (sd_ac (sd_li a (fun _ _ => false) sm) (i + 1)))), (3, .int (nI (sd_ct a (i + 1)))), (4, .int (nI (i + 1)))] := lv_sub hl [3, 4, 2, 1, 0] rfl
      exact ih (i + 1) ls (by omega) hl
end
section
/-! Contracts of StrategyDesk: lines of claims, gaps, claimed, reply, answer, models. -/
theorem sd_dv (x i : Nat) : 2 ^ i * (x / 2 ^ i) = 2 ^ (i + 1) * (x / 2 ^ (i + 1)) + (x.testBit i).toNat * 2 ^ i := by
  have h1 := Nat.div_add_mod (x / 2 ^ i) 2
  rw [Nat.div_div_eq_div_mul, ← Nat.pow_succ, ← Nat.toNat_testBit] at h1
  have h2 : 2 ^ i * (x / 2 ^ i) = 2 ^ i * (2 * (x / 2 ^ (i + 1)) + (x.testBit i).toNat) := by rw [h1]
  rw [h2, Nat.mul_add, ← Nat.mul_assoc, ← Nat.pow_succ, Nat.mul_comm (2 ^ i) (Bool.toNat _)]
/-- what valuesWithClaims holds after i variables -/
def sd_mx (n a : Nat) (T : Nat → Int32) (sm i : Nat) : Nat := sd_ac (sd_cl a T sm) i + 2 ^ i * (sd_ac (sd_li a (fun _ _ => false) sm) n / 2 ^ i)
theorem sd_mx_0 (n a : Nat) (T : Nat → Int32) (sm : Nat) : sd_mx n a T sm 0 = sd_ac (sd_li a (fun _ _ => false) sm) n := by
  show 0 + 1 * (sd_ac (sd_li a (fun _ _ => false) sm) n / 1) = _
  rw [Nat.zero_add, Nat.one_mul, Nat.div_one]
theorem sd_mx_n (n a : Nat) (T : Nat → Int32) (sm : Nat) : sd_mx n a T sm n = sd_ac (sd_cl a T sm) n := by
  unfold sd_mx
  rw [Nat.div_eq_of_lt (sd_ac_lt _ n), Nat.mul_zero, Nat.add_zero]
theorem sd_mx_a {n a : Nat} {T : Nat → Int32} {sm i : Nat} (hi : i < n) (h : a.testBit i = true) : sd_mx n a T sm (i + 1) = sd_mx n a T sm i := by
  unfold sd_mx
  rw [sd_dv _ i, sd_ac_tb _ n hi, sd_li_a h]
  show sd_ac (sd_cl a T sm) i + (sd_cl a T sm i (sd_ac (sd_cl a T sm) i)).toNat * 2 ^ i + _ = _
  rw [show sd_cl a T sm i (sd_ac (sd_cl a T sm) i) = sm.testBit (sd_ct a i) from sd_li_a h]
  omega
theorem sd_mx_e {n a : Nat} {T : Nat → Int32} {sm i : Nat} (hi : i < n) (h : a.testBit i = false) : sd_mx n a T sm i ||| ((uN (T i)).testBit (sm % 2 ^ sd_ct a i)).toNat * 2 ^ i = sd_mx n a T sm (i + 1) := by
  have e1 : sd_mx n a T sm i = 2 ^ (i + 1) * (sd_ac (sd_li a (fun _ _ => false) sm) n / 2 ^ (i + 1)) + sd_ac (sd_cl a T sm) i := by
    unfold sd_mx
    rw [sd_dv _ i, sd_ac_tb _ n hi, sd_li_e h]
    show sd_ac (sd_cl a T sm) i + (_ + 0 * 2 ^ i) = _
    omega
  have hl := sd_ac_lt (sd_cl a T sm) i
  have hp := Nat.two_pow_succ i
  have e2 : (sd_mx n a T sm i).testBit i = false := by
    rw [e1, Nat.testBit_two_pow_mul_add _ (by omega), if_pos (by omega)]
    exact sd_ac_hi _ (Nat.le_refl i)
  rw [hw_orb e2, e1]
  unfold sd_mx
  show _ = sd_ac (sd_cl a T sm) i + (sd_cl a T sm i (sd_ac (sd_cl a T sm) i)).toNat * 2 ^ i + _
  rw [show sd_cl a T sm i (sd_ac (sd_cl a T sm) i) = (uN (T i)).testBit (sm % 2 ^ sd_ct a i) from sd_li_e h]
  omega
theorem sd_mx_lt {n a : Nat} {T : Nat → Int32} {sm : Nat} {i : Nat} (hi : i ≤ n) : sd_mx n a T sm i < 2 ^ n := by
  induction i with
  | zero => rw [sd_mx_0]; exact sd_ac_lt _ n
  | succ i ih =>
    have h1 := ih (by omega)
    by_cases h : a.testBit i = true
    · rw [sd_mx_a (by omega) h]; exact h1
    · have h : a.testBit i = false := by simpa using h
      rw [← sd_mx_e (by omega) h]
      apply Nat.or_lt_two_pow h1
      have h2 := bI_le ((uN (T i)).testBit (sm % 2 ^ sd_ct a i))
      have h3 : 2 ^ (i + 1) ≤ 2 ^ n := Nat.pow_le_pow_right (by decide) hi
      have hp := Nat.two_pow_succ i
      have hp0 := Nat.two_pow_pos i
      cases (uN (T i)).testBit (sm % 2 ^ sd_ct a i)
      · show 0 * 2 ^ i < 2 ^ n; omega
      · show 1 * 2 ^ i < 2 ^ n; omega
theorem hw_ev_t {x n : Nat} {b : Bool} (h : (decide (x < n) && !b) = true) : x < n ∧ b = false := by simpa using h
theorem hw_ev_f {x n : Nat} {b : Bool} (h : (decide (x < n) && !b) = false) : ¬ (x < n ∧ b = false) := by
  intro h2
  rw [decide_eq_true h2.1, h2.2] at h
  exact absurd h (by decide)
theorem hw_in' {x : Int32} {n : Nat} (hn : n < 2 ^ 31) (h0 : ¬ x < 0) (h1 : x < nI n) : uN x < n := hw_in hn h0 (Int32.not_le.mpr h1)
theorem hw_big' {x : Int32} {n : Nat} (hn : n < 2 ^ 31) (h : ¬ x < nI n) : ¬ uN x < n := hw_big hn (Int32.not_lt.mp h)
theorem hw_ev0 {n a i : Nat} (hi : i < n) (hn : n < 2 ^ 31) : (decide (uN (nI i) < n) && !a.testBit (uN (nI i))) = !a.testBit i := by
  rw [uN_nI (by omega), decide_eq_true hi, Bool.true_and]

set_option maxHeartbeats 4000000 in
set_option maxRecDepth 100000 in
theorem c_valuesWithClaims (l : Launch) (D : va_G) (cI cZ : ClassId) (od og ob oe oy oz ot n a q d v : Nat) (Y Z : Nat → Nat) (T : Nat → Int32) (ok : dOk n a q d v Y Z) (sm : Nat) (hsm : sm < 32) : Met l yX1_valuesWithClaims (kX1_valuesWithClaims :: aW) { frames := 3, cells := 0, slots := 0, locals := 63 } (rPre [.ref od, .int (nI sm)] D [(od, .inr (1, [.int (nI n), .int (nI a), .int (nI (2 ^ n - 1 - a)), .ref og, .ref oy, .ref oz, .int (nI q), .int (nI d), .int (nI v), .ref ot])), (og, .inr (0, [.int (nI n), .int (nI a), .ref ob, .ref oe])), (ob, .inl (cI, (2 ^ n), .inl (fun j => nI ((sd_br Y Z q) j)))), (oe, .inl (cZ, (2 * 2 ^ n), .inl (fun j => bI ((sd_ew n a (fun w => sd_br Y Z q w == 0)) j)))), (oy, .inl (cI, 24, .inl (fun j => nI (Y j)))), (oz, .inl (cI, 24, .inl (fun j => nI (Z j)))), (ot, .inl (cI, n, .inl T))] [(cI, .int), (cZ, .boolean)]) (QcRead (nI (sd_ac (sd_cl a T sm) n))) 0 0 (fun _ => False) := by
  obtain ⟨hn1, hn, ha, h5, hq, hY, hZ, hd, hv⟩ := id ok
  have h2n := hw_p10 hn
  refine Met.ofW (cc := cX1_valuesWithClaims) (maxL := 4) (ret := (some .int)) (by decide) rfl ?_
  intro p e s m args below meth c s₁ Bo hml hpre
  obtain ⟨rfl, hP, hK, hN⟩ := hpre
  have hx := Bo.exec
  have hb := Bo.bytes
  have hr := Bo.returns
  have hts := atoms_spec (ws := kX1_valuesWithClaims :: aW) Bo.pre
  have ht : ∀ w ∈ aW, w.before _ s = true := fun w h => hts w (List.mem_cons_of_mem _ h)
  have hown : s.vm.findClass RX1 = some m.cls := findClass_of_methodNamed Bo.named
  have hlocks := Bo.notSynchronized
  have hP : va_P D clS [(od, .inr (1, [.int (nI n), .int (nI a), .int (nI (2 ^ n - 1 - a)), .ref og, .ref oy, .ref oz, .int (nI q), .int (nI d), .int (nI v), .ref ot])), (og, .inr (0, [.int (nI n), .int (nI a), .ref ob, .ref oe])), (ob, .inl (cI, (2 ^ n), .inl (fun j => nI ((sd_br Y Z q) j)))), (oe, .inl (cZ, (2 * 2 ^ n), .inl (fun j => bI ((sd_ew n a (fun w => sd_br Y Z q w == 0)) j)))), (oy, .inl (cI, 24, .inl (fun j => nI (Y j)))), (oz, .inl (cI, 24, .inl (fun j => nI (Z j)))), (ot, .inl (cI, n, .inl T))] s.heap := hP
  have hl := lv_entry ([.ref od, .int (nI sm)]) (n := 4) (Nat.le_of_ble_eq_true rfl)
  rw [lg_entry_eq]
  generalize (lg_sl ([.ref od, .int (nI sm)]) ++ List.replicate (4 - (lg_sl ([.ref od, .int (nI sm)])).length) Slot.unset).toArray = ls at hl ⊢
  have hl : lv_has ls 4 [(0, .ref od), (1, .int (nI sm))] := hl
  refine lv_aload_n hx hb dX1_valuesWithClaims_0 rfl (lv_at hl 0 rfl) ?_
  refine lv_iload_n hx hb dX1_valuesWithClaims_1 rfl (lv_at hl 1 rfl) ?_
  refine hw_callR (va_runV (b := od) (As := [.int (nI sm)]) (rest := []) ⟨hx, hb, hml, hown, ht⟩ (c_adamValues l D cI cZ od og ob oe oy oz ot n a q d v Y Z T ok sm hsm) (cwV 1 ht (gV wm_X1_X1_adamValues wi_X1_adamValues ws_X1_adamValues wn_X1 wc_X1_adamValues) rfl rfl rfl (by decide +kernel) ⟨Nat.le_of_ble_eq_true rfl, Nat.le_of_ble_eq_true rfl⟩) (rPre_V 0 hP hK hN rfl rfl) rfl rfl hl.1 rfl (lv_room (Nat.le_of_ble_eq_true rfl)) dX1_valuesWithClaims_2 ⟨Nat.zero_le _, Nat.zero_le _⟩) ?_
  refine lv_istore_n hx hb dX1_valuesWithClaims_5 rfl hl (by decide) rfl (fun ls hl => ?_)
  have hl : lv_has ls 4 [(2, .int (nI (sd_ac (sd_li a (fun _ _ => false) sm) n))), (0, .ref od), (1, .int (nI sm))] := hl
  refine lv_iconst (v := nI 0) hx hb dX1_valuesWithClaims_6 (by decide) ?_
  refine lv_istore_n hx hb dX1_valuesWithClaims_7 rfl hl (by decide) rfl (fun ls hl => ?_)
  have hl : lv_has ls 4 [(3, .int (nI 0)), (2, .int (nI (sd_ac (sd_li a (fun _ _ => false) sm) n))), (0, .ref od), (1, .int (nI sm))] := hl
  have hl : lv_has ls 4 [(0, .ref od), (1, .int (nI sm)), (2, .int (nI (sd_ac (sd_li a (fun _ _ => false) sm) n))), (3, .int (nI 0))] := lv_sub hl [2, 3, 1, 0] rfl
  have hl : lv_has ls 4 [(0, .ref od), (1, .int (nI sm)), (2, .int (nI (sd_mx n a T sm 0))), (3, .int (nI 0))] := by rw [show nI (sd_mx n a T sm 0) = nI (sd_ac (sd_li a (fun _ _ => false) sm) n) from congrArg nI (sd_mx_0 n a T sm)]; exact hl
  suffices lp : ∀ k : Nat, ∀ (i : Nat) (ls : Array Slot), (i + k = n) → lv_has ls 4 [(0, .ref od), (1, .int (nI sm)), (2, .int (nI (sd_mx n a T sm i))), (3, .int (nI i))] → W p l e (headSpec (kX1_valuesWithClaims :: aW) { frames := 3, cells := 0, slots := 0, locals := 63 }).room s m (([.ref od, .int (nI sm)] : List Value).toArray) below meth c s.heap [] 0 0 (MQ below (QcRead (nI (sd_ac (sd_cl a T sm) n))) (([.ref od, .int (nI sm)] : List Value).toArray) s 0 0 (fun _ => False)) (F0 m 8 ls []) by
    exact lp n 0 ls (by omega) hl
  intro k
  induction k with
  | zero =>
    intro i ls hi hl
    refine lv_iload_n hx hb dX1_valuesWithClaims_8 rfl (lv_at hl 3 rfl) ?_
    refine lv_aload_n hx hb dX1_valuesWithClaims_9 rfl (lv_at hl 0 rfl) ?_
    refine va_get (D := D) (ci := 1) (v := .int (nI n)) (C := RX1) (T := TX1) (N := 10) hx hb ht inX1 hown hK hP 0 rfl rfl 0 (by decide) (ht _ wf_X1_size) (fun _ h9 => h9) rfl dX1_valuesWithClaims_10 ?_
    refine lv_icmp_ge (tgt := 50) hx hb dX1_valuesWithClaims_13 rfl (fun _ => ?_) (fun hc => absurd (show ¬ (n ≤ i) from fun h9 => hc ((nI_leI (by omega) (by omega)).mpr h9)) (by omega))
    refine lv_iload_n hx hb dX1_valuesWithClaims_50 rfl (lv_at hl 2 rfl) ?_
    exact W.iret hx hb hr (fun t ht2 _ => ⟨hw_ret (by rw [show i = n by omega, sd_mx_n]), ht2⟩) (fun _ h => by cases h) dX1_valuesWithClaims_51
  | succ k ih =>
    intro i ls hi hl
    have hmx := sd_mx_lt (n := n) (a := a) (T := T) (sm := sm) (i := i) (by omega)
    have hct := sd_ct_mono a (v := i) (w := n) (by omega)
    have h32 := sd_p32 h5 (v := i) (by omega)
    have hmd : sm % 2 ^ sd_ct a i < 2 ^ sd_ct a i := Nat.mod_lt _ (Nat.two_pow_pos _)
    refine lv_iload_n hx hb dX1_valuesWithClaims_8 rfl (lv_at hl 3 rfl) ?_
    refine lv_aload_n hx hb dX1_valuesWithClaims_9 rfl (lv_at hl 0 rfl) ?_
    refine va_get (D := D) (ci := 1) (v := .int (nI n)) (C := RX1) (T := TX1) (N := 10) hx hb ht inX1 hown hK hP 0 rfl rfl 0 (by decide) (ht _ wf_X1_size) (fun _ h9 => h9) rfl dX1_valuesWithClaims_10 ?_
    refine lv_icmp_ge (tgt := 50) hx hb dX1_valuesWithClaims_13 rfl (fun hc => absurd (show n ≤ i from (nI_leI (by omega) (by omega)).mp hc) (by omega)) (fun _ => ?_)
    refine lv_aload_n hx hb dX1_valuesWithClaims_16 rfl (lv_at hl 0 rfl) ?_
    refine lv_iload_n hx hb dX1_valuesWithClaims_17 rfl (lv_at hl 3 rfl) ?_
    refine hw_callR (va_runV (b := od) (As := [.int (nI i)]) (rest := []) ⟨hx, hb, hml, hown, ht⟩ (c_isEves l D cI cZ od og ob oe oy oz ot n a q d v Y Z T ok (nI i)) (cwV 1 ht (gV wm_X1_X1_isEves wi_X1_isEves ws_X1_isEves wn_X1 wc_X1_isEves) rfl rfl rfl (by decide +kernel) ⟨Nat.le_of_ble_eq_true rfl, Nat.le_of_ble_eq_true rfl⟩) (rPre_V 0 hP hK hN rfl rfl) rfl rfl hl.1 rfl (lv_room (Nat.le_of_ble_eq_true rfl)) dX1_valuesWithClaims_18 ⟨Nat.zero_le _, Nat.zero_le _⟩) ?_
    refine lv_nm (y := bI (!a.testBit i)) (congrArg bI (hw_ev0 (by omega) (by omega))) ?_
    refine lv_if_eq (tgt := 44) hx hb dX1_valuesWithClaims_21 rfl (fun h1 => ?_) (fun h1 => ?_)
    · have h1 : (!a.testBit i) = false := (bI_eq0 _).mp h1
      have hl : lv_has ls 4 [(0, .ref od), (1, .int (nI sm)), (2, .int (nI (sd_mx n a T sm (i + 1)))), (3, .int (nI i))] := by rw [show nI (sd_mx n a T sm (i + 1)) = nI (sd_mx n a T sm i) from congrArg nI (sd_mx_a (by omega) (by simpa using h1))]; exact hl
      refine lv_iinc (k := 3) (v := nI (i + 1)) hx hb dX1_valuesWithClaims_44 hl rfl (hw_inc _) (by decide) rfl (fun ls hl => ?_)
      have hl : lv_has ls 4 [(3, .int (nI (i + 1))), (0, .ref od), (1, .int (nI sm)), (2, .int (nI (sd_mx n a T sm (i + 1))))] := hl
      refine lv_goto (tgt := 8) hx hb dX1_valuesWithClaims_47 rfl ?_
      have hl : lv_has ls 4 [(0, .ref od), (1, .int (nI sm)), (2, .int (nI (sd_mx n a T sm (i + 1)))), (3, .int (nI (i + 1)))] := lv_sub hl [1, 2, 3, 0] rfl
      exact ih (i + 1) ls (by omega) hl
    · have h1 : (!a.testBit i) = true := bI_ne0 h1
      have h2 : a.testBit i = false := by simpa using h1
      refine lv_iload_n hx hb dX1_valuesWithClaims_24 rfl (lv_at hl 2 rfl) ?_
      refine lv_aload_n hx hb dX1_valuesWithClaims_25 rfl (lv_at hl 0 rfl) ?_
      refine va_get (D := D) (ci := 1) (v := .ref ot) (C := RX1) (T := TX1) (N := 10) hx hb ht inX1 hown hK hP 0 rfl rfl 9 (by decide) (ht _ wf_X1_tables) (fun _ h9 => h9) rfl dX1_valuesWithClaims_26 ?_
      refine lv_iload_n hx hb dX1_valuesWithClaims_29 rfl (lv_at hl 3 rfl) ?_
      refine na_iald (f := T) hx hb hK hP 6 0 rfl rfl (j := i) (by omega) (by omega) dX1_valuesWithClaims_30 ?_
      refine lv_aload_n hx hb dX1_valuesWithClaims_31 rfl (lv_at hl 0 rfl) ?_
      refine lv_iload_n hx hb dX1_valuesWithClaims_32 rfl (lv_at hl 3 rfl) ?_
      refine lv_iload_n hx hb dX1_valuesWithClaims_33 rfl (lv_at hl 1 rfl) ?_
      refine hw_callR (va_runV (b := od) (As := [.int (nI i), .int (nI sm)]) (rest := [.int (T i), .int (nI (sd_mx n a T sm i))]) ⟨hx, hb, hml, hown, ht⟩ (c_sumBefore l D cI cZ od og ob oe oy oz ot n a q d v Y Z T ok i sm (by omega)) (cwV 2 ht (gV wm_X1_X1_sumBefore wi_X1_sumBefore ws_X1_sumBefore wn_X1 wc_X1_sumBefore) rfl rfl rfl (by decide +kernel) ⟨Nat.le_of_ble_eq_true rfl, Nat.le_of_ble_eq_true rfl⟩) (rPre_V 0 hP hK hN rfl rfl) rfl rfl hl.1 rfl (lv_room (Nat.le_of_ble_eq_true rfl)) dX1_valuesWithClaims_34 ⟨Nat.zero_le _, Nat.zero_le _⟩) ?_
      refine hw_callR (va_runS (As := [.int (T i), .int (nI (sm % 2 ^ sd_ct a i))]) (rest := [.int (nI (sd_mx n a T sm i))]) ⟨hx, hb, hml, hown, ht⟩ (c_bit l D cI cZ (T i) (sm % 2 ^ sd_ct a i) (by omega)) (va_cwS 2 ht (gS wm_X1_X1_bit wt_X1_bit wn_X1 wc_X1_bit) rfl rfl rfl (by decide +kernel) ⟨Nat.le_of_ble_eq_true rfl, Nat.le_of_ble_eq_true rfl⟩) (rPre_S (hP.sub [] rfl) hK hN) rfl rfl hl.1 rfl (lv_room (Nat.le_of_ble_eq_true rfl)) dX1_valuesWithClaims_37 ⟨Nat.zero_le _, Nat.zero_le _⟩) ?_
      refine lv_iload_n hx hb dX1_valuesWithClaims_40 rfl (lv_at hl 3 rfl) ?_
      refine lv_ishl hx hb dX1_valuesWithClaims_41 ?_
      refine lv_nm (y := nI (((uN (T i)).testBit (sm % 2 ^ sd_ct a i)).toNat * 2 ^ i)) (hw_bshl _ (by omega)) ?_
      refine lv_ior hx hb dX1_valuesWithClaims_42 ?_
      refine lv_nm (y := nI ((sd_mx n a T sm i) ||| (((uN (T i)).testBit (sm % 2 ^ sd_ct a i)).toNat * 2 ^ i))) (hw_or _ _) ?_
      refine lv_nm (y := nI (sd_mx n a T sm (i + 1))) (congrArg nI (sd_mx_e (by omega) h2)) ?_
      refine lv_istore_n hx hb dX1_valuesWithClaims_43 rfl hl (by decide) rfl (fun ls hl => ?_)
      have hl : lv_has ls 4 [(2, .int (nI (sd_mx n a T sm (i + 1)))), (0, .ref od), (1, .int (nI sm)), (3, .int (nI i))] := hl
      refine lv_iinc (k := 3) (v := nI (i + 1)) hx hb dX1_valuesWithClaims_44 hl rfl (hw_inc _) (by decide) rfl (fun ls hl => ?_)
      have hl : lv_has ls 4 [(3, .int (nI (i + 1))), (2, .int (nI (sd_mx n a T sm (i + 1)))), (0, .ref od), (1, .int (nI sm))] := hl
      refine lv_goto (tgt := 8) hx hb dX1_valuesWithClaims_47 rfl ?_
      have hl : lv_has ls 4 [(0, .ref od), (1, .int (nI sm)), (2, .int (nI (sd_mx n a T sm (i + 1)))), (3, .int (nI (i + 1)))] := lv_sub hl [2, 3, 1, 0] rfl
      exact ih (i + 1) ls (by omega) hl

set_option maxHeartbeats 4000000 in
set_option maxRecDepth 100000 in
theorem c_gap (l : Launch) (D : va_G) (cI cZ : ClassId) (od og ob oe oy oz ot n a q d v : Nat) (Y Z : Nat → Nat) (T : Nat → Int32) (ok : dOk n a q d v Y Z) : Met l yX1_gap (kX1_gap :: aW) { frames := 4, cells := 0, slots := 0, locals := 86 } (rPre [.ref od] D [(od, .inr (1, [.int (nI n), .int (nI a), .int (nI (2 ^ n - 1 - a)), .ref og, .ref oy, .ref oz, .int (nI q), .int (nI d), .int (nI v), .ref ot])), (og, .inr (0, [.int (nI n), .int (nI a), .ref ob, .ref oe])), (ob, .inl (cI, (2 ^ n), .inl (fun j => nI ((sd_br Y Z q) j)))), (oe, .inl (cZ, (2 * 2 ^ n), .inl (fun j => bI ((sd_ew n a (fun w => sd_br Y Z q w == 0)) j)))), (oy, .inl (cI, 24, .inl (fun j => nI (Y j)))), (oz, .inl (cI, 24, .inl (fun j => nI (Z j)))), (ot, .inl (cI, n, .inl T))] [(cI, .int), (cZ, .boolean)]) (QcRead (sd_gp (fun sm => sd_br Y Z q (sd_ac (sd_cl a T sm) n) == 0) (2 ^ sd_ct a n) 0)) 0 0 (fun _ => False) := by
  obtain ⟨hn1, hn, ha, h5, hq, hY, hZ, hd, hv⟩ := id ok
  have h2n := hw_p10 hn
  refine Met.ofW (cc := cX1_gap) (maxL := 3) (ret := (some .int)) (by decide) rfl ?_
  intro p e s m args below meth c s₁ Bo hml hpre
  obtain ⟨rfl, hP, hK, hN⟩ := hpre
  have hx := Bo.exec
  have hb := Bo.bytes
  have hr := Bo.returns
  have hts := atoms_spec (ws := kX1_gap :: aW) Bo.pre
  have ht : ∀ w ∈ aW, w.before _ s = true := fun w h => hts w (List.mem_cons_of_mem _ h)
  have hown : s.vm.findClass RX1 = some m.cls := findClass_of_methodNamed Bo.named
  have hlocks := Bo.notSynchronized
  have hP : va_P D clS [(od, .inr (1, [.int (nI n), .int (nI a), .int (nI (2 ^ n - 1 - a)), .ref og, .ref oy, .ref oz, .int (nI q), .int (nI d), .int (nI v), .ref ot])), (og, .inr (0, [.int (nI n), .int (nI a), .ref ob, .ref oe])), (ob, .inl (cI, (2 ^ n), .inl (fun j => nI ((sd_br Y Z q) j)))), (oe, .inl (cZ, (2 * 2 ^ n), .inl (fun j => bI ((sd_ew n a (fun w => sd_br Y Z q w == 0)) j)))), (oy, .inl (cI, 24, .inl (fun j => nI (Y j)))), (oz, .inl (cI, 24, .inl (fun j => nI (Z j)))), (ot, .inl (cI, n, .inl T))] s.heap := hP
  have hl := lv_entry ([.ref od]) (n := 3) (Nat.le_of_ble_eq_true rfl)
  rw [lg_entry_eq]
  generalize (lg_sl ([.ref od]) ++ List.replicate (3 - (lg_sl ([.ref od])).length) Slot.unset).toArray = ls at hl ⊢
  have hl : lv_has ls 3 [(0, .ref od)] := hl
  have h32 := sd_p32 h5 (v := n) (Nat.le_refl n)
  refine lv_aload_n hx hb dX1_gap_0 rfl (lv_at hl 0 rfl) ?_
  refine lv_aload_n hx hb dX1_gap_1 rfl (lv_at hl 0 rfl) ?_
  refine va_get (D := D) (ci := 1) (v := .int (nI n)) (C := RX1) (T := TX1) (N := 10) hx hb ht inX1 hown hK hP 0 rfl rfl 0 (by decide) (ht _ wf_X1_size) (fun _ h9 => h9) rfl dX1_gap_2 ?_
  refine hw_callR (va_runV (b := od) (As := [.int (nI n)]) (rest := []) ⟨hx, hb, hml, hown, ht⟩ (c_sumsBefore l D cI cZ od og ob oe oy oz ot n a q d v Y Z T ok n (Nat.le_refl n)) (cwV 1 ht (gV wm_X1_X1_sumsBefore wi_X1_sumsBefore ws_X1_sumsBefore wn_X1 wc_X1_sumsBefore) rfl rfl rfl (by decide +kernel) ⟨Nat.le_of_ble_eq_true rfl, Nat.le_of_ble_eq_true rfl⟩) (rPre_V 0 hP hK hN rfl rfl) rfl rfl hl.1 rfl (lv_room (Nat.le_of_ble_eq_true rfl)) dX1_gap_5 ⟨Nat.zero_le _, Nat.zero_le _⟩) ?_
  refine lv_istore_n hx hb dX1_gap_8 rfl hl (by decide) rfl (fun ls hl => ?_)
  have hl : lv_has ls 3 [(1, .int (nI (2 ^ sd_ct a n))), (0, .ref od)] := hl
  refine lv_iconst (v := nI 0) hx hb dX1_gap_9 (by decide) ?_
  refine lv_istore_n hx hb dX1_gap_10 rfl hl (by decide) rfl (fun ls hl => ?_)
  have hl : lv_has ls 3 [(2, .int (nI 0)), (1, .int (nI (2 ^ sd_ct a n))), (0, .ref od)] := hl
  have hl : lv_has ls 3 [(0, .ref od), (1, .int (nI (2 ^ sd_ct a n))), (2, .int (nI 0))] := lv_sub hl [2, 1, 0] rfl
  suffices lp : ∀ k : Nat, ∀ (i : Nat) (ls : Array Slot), (i + k = 2 ^ sd_ct a n) → (sd_gp (fun sm => sd_br Y Z q (sd_ac (sd_cl a T sm) n) == 0) (2 ^ sd_ct a n) 0 = sd_gp (fun sm => sd_br Y Z q (sd_ac (sd_cl a T sm) n) == 0) k i) → lv_has ls 3 [(0, .ref od), (1, .int (nI (2 ^ sd_ct a n))), (2, .int (nI i))] → W p l e (headSpec (kX1_gap :: aW) { frames := 4, cells := 0, slots := 0, locals := 86 }).room s m (([.ref od] : List Value).toArray) below meth c s.heap [] 0 0 (MQ below (QcRead (sd_gp (fun sm => sd_br Y Z q (sd_ac (sd_cl a T sm) n) == 0) (2 ^ sd_ct a n) 0)) (([.ref od] : List Value).toArray) s 0 0 (fun _ => False)) (F0 m 11 ls []) by
    exact lp (2 ^ sd_ct a n) 0 ls (by omega) rfl hl
  intro k
  induction k with
  | zero =>
    intro i ls hi hg hl
    refine lv_iload_n hx hb dX1_gap_11 rfl (lv_at hl 2 rfl) ?_
    refine lv_iload_n hx hb dX1_gap_12 rfl (lv_at hl 1 rfl) ?_
    refine lv_icmp_ge (tgt := 43) hx hb dX1_gap_13 rfl (fun _ => ?_) (fun hc => absurd (show ¬ (2 ^ sd_ct a n ≤ i) from fun h9 => hc ((nI_leI (by omega) (by omega)).mpr h9)) (by omega))
    refine lv_iconst (v := (-1)) hx hb dX1_gap_43 (by decide) ?_
    exact W.iret hx hb hr (fun t ht2 _ => ⟨hw_ret (hg.symm), ht2⟩) (fun _ h => by cases h) dX1_gap_44
  | succ k ih =>
    intro i ls hi hg hl
    have hac := sd_ac_lt (sd_cl a T i) n
    refine lv_iload_n hx hb dX1_gap_11 rfl (lv_at hl 2 rfl) ?_
    refine lv_iload_n hx hb dX1_gap_12 rfl (lv_at hl 1 rfl) ?_
    refine lv_icmp_ge (tgt := 43) hx hb dX1_gap_13 rfl (fun hc => absurd (show 2 ^ sd_ct a n ≤ i from (nI_leI (by omega) (by omega)).mp hc) (by omega)) (fun _ => ?_)
    refine lv_aload_n hx hb dX1_gap_16 rfl (lv_at hl 0 rfl) ?_
    refine va_get (D := D) (ci := 1) (v := .ref og) (C := RX1) (T := TX1) (N := 10) hx hb ht inX1 hown hK hP 0 rfl rfl 3 (by decide) (ht _ wf_X1_game) (fun _ h9 => h9) rfl dX1_gap_17 ?_
    refine lv_aload_n hx hb dX1_gap_20 rfl (lv_at hl 0 rfl) ?_
    refine va_get (D := D) (ci := 1) (v := .int (nI n)) (C := RX1) (T := TX1) (N := 10) hx hb ht inX1 hown hK hP 0 rfl rfl 0 (by decide) (ht _ wf_X1_size) (fun _ h9 => h9) rfl dX1_gap_21 ?_
    refine lv_aload_n hx hb dX1_gap_24 rfl (lv_at hl 0 rfl) ?_
    refine lv_iload_n hx hb dX1_gap_25 rfl (lv_at hl 2 rfl) ?_
    refine hw_callR (va_runV (b := od) (As := [.int (nI i)]) (rest := [.int (nI n), .ref og]) ⟨hx, hb, hml, hown, ht⟩ (c_valuesWithClaims l D cI cZ od og ob oe oy oz ot n a q d v Y Z T ok i (by omega)) (cwV 1 ht (gV wm_X1_X1_valuesWithClaims wi_X1_valuesWithClaims ws_X1_valuesWithClaims wn_X1 wc_X1_valuesWithClaims) rfl rfl rfl (by decide +kernel) ⟨Nat.le_of_ble_eq_true rfl, Nat.le_of_ble_eq_true rfl⟩) (rPre_V 0 hP hK hN rfl rfl) rfl rfl hl.1 rfl (lv_room (Nat.le_of_ble_eq_true rfl)) dX1_gap_26 ⟨Nat.zero_le _, Nat.zero_le _⟩) ?_
    refine hw_callR (va_runV (b := og) (As := [.int (nI n), .int (nI (sd_ac (sd_cl a T i) n))]) (rest := []) ⟨hx, hb, hml, hown, ht⟩ (c_eveWinsAt l D cI cZ og ob oe n a n (sd_ac (sd_cl a T i) n) (sd_br Y Z q) (sd_ew n a (fun w => sd_br Y Z q w == 0)) hn (by omega) (by omega)) (cwV 2 ht (gV wm_X1_X0_eveWinsAt wi_X0_eveWinsAt ws_X0_eveWinsAt wn_X0 wc_X0_eveWinsAt) rfl rfl rfl (by decide +kernel) ⟨Nat.le_of_ble_eq_true rfl, Nat.le_of_ble_eq_true rfl⟩) (rPre_V 0 (hP.sub [1, 2, 3] rfl) hK hN rfl rfl) rfl rfl hl.1 rfl (lv_room (Nat.le_of_ble_eq_true rfl)) dX1_gap_29 ⟨Nat.zero_le _, Nat.zero_le _⟩) ?_
    refine lv_nm (y := bI (sd_br Y Z q (sd_ac (sd_cl a T i) n) == 0)) (congrArg bI ((sd_ew_at hac).trans (sd_E_n n a (fun w => sd_br Y Z q w == 0) _))) ?_
    refine lv_if_ne (tgt := 37) hx hb dX1_gap_32 rfl (fun h1 => ?_) (fun h1 => ?_)
    · have h1 : (sd_br Y Z q (sd_ac (sd_cl a T i) n) == 0) = true := bI_ne0 h1
      refine lv_iinc (k := 2) (v := nI (i + 1)) hx hb dX1_gap_37 hl rfl (hw_inc _) (by decide) rfl (fun ls hl => ?_)
      have hl : lv_has ls 3 [(2, .int (nI (i + 1))), (0, .ref od), (1, .int (nI (2 ^ sd_ct a n)))] := hl
      refine lv_goto (tgt := 11) hx hb dX1_gap_40 rfl ?_
      have hl : lv_has ls 3 [(0, .ref od), (1, .int (nI (2 ^ sd_ct a n))), (2, .int (nI (i + 1)))] := lv_sub hl [1, 2, 0] rfl
      exact ih (i + 1) ls (by omega) (hg.trans (if_pos h1)) hl
    · have h1 : (sd_br Y Z q (sd_ac (sd_cl a T i) n) == 0) = false := (bI_eq0 _).mp h1
      refine lv_iload_n hx hb dX1_gap_35 rfl (lv_at hl 2 rfl) ?_
      exact W.iret hx hb hr (fun t ht2 _ => ⟨hw_ret ((hg.trans (if_neg (fun h9 => absurd (h1.symm.trans h9) (by decide)))).symm), ht2⟩) (fun _ h => by cases h) dX1_gap_36

set_option maxHeartbeats 4000000 in
set_option maxRecDepth 100000 in
theorem c_claimed (l : Launch) (D : va_G) (cI cZ : ClassId) (od og ob oe oy oz ot n a q d v : Nat) (Y Z : Nat → Nat) (T : Nat → Int32) (ok : dOk n a q d v Y Z) (x y0 : Int32) : Met l yX1_claimed (kX1_claimed :: aW) { frames := 2, cells := 0, slots := 0, locals := 42 } (rPre [.ref od, .int x, .int y0] D [(od, .inr (1, [.int (nI n), .int (nI a), .int (nI (2 ^ n - 1 - a)), .ref og, .ref oy, .ref oz, .int (nI q), .int (nI d), .int (nI v), .ref ot])), (og, .inr (0, [.int (nI n), .int (nI a), .ref ob, .ref oe])), (ob, .inl (cI, (2 ^ n), .inl (fun j => nI ((sd_br Y Z q) j)))), (oe, .inl (cZ, (2 * 2 ^ n), .inl (fun j => bI ((sd_ew n a (fun w => sd_br Y Z q w == 0)) j)))), (oy, .inl (cI, 24, .inl (fun j => nI (Y j)))), (oz, .inl (cI, 24, .inl (fun j => nI (Z j)))), (ot, .inl (cI, n, .inl T))] [(cI, .int), (cZ, .boolean)]) (QcRead (if (uN x < n ∧ a.testBit (uN x) = false) ∧ uN y0 < 2 ^ sd_ct a (uN x) then bI ((uN (T (uN x))).testBit (uN y0)) else 0)) 0 0 (fun _ => False) := by
  obtain ⟨hn1, hn, ha, h5, hq, hY, hZ, hd, hv⟩ := id ok
  have h2n := hw_p10 hn
  refine Met.ofW (cc := cX1_claimed) (maxL := 3) (ret := (some .int)) (by decide) rfl ?_
  intro p e s m args below meth c s₁ Bo hml hpre
  obtain ⟨rfl, hP, hK, hN⟩ := hpre
  have hx := Bo.exec
  have hb := Bo.bytes
  have hr := Bo.returns
  have hts := atoms_spec (ws := kX1_claimed :: aW) Bo.pre
  have ht : ∀ w ∈ aW, w.before _ s = true := fun w h => hts w (List.mem_cons_of_mem _ h)
  have hown : s.vm.findClass RX1 = some m.cls := findClass_of_methodNamed Bo.named
  have hlocks := Bo.notSynchronized
  have hP : va_P D clS [(od, .inr (1, [.int (nI n), .int (nI a), .int (nI (2 ^ n - 1 - a)), .ref og, .ref oy, .ref oz, .int (nI q), .int (nI d), .int (nI v), .ref ot])), (og, .inr (0, [.int (nI n), .int (nI a), .ref ob, .ref oe])), (ob, .inl (cI, (2 ^ n), .inl (fun j => nI ((sd_br Y Z q) j)))), (oe, .inl (cZ, (2 * 2 ^ n), .inl (fun j => bI ((sd_ew n a (fun w => sd_br Y Z q w == 0)) j)))), (oy, .inl (cI, 24, .inl (fun j => nI (Y j)))), (oz, .inl (cI, 24, .inl (fun j => nI (Z j)))), (ot, .inl (cI, n, .inl T))] s.heap := hP
  have hl := lv_entry ([.ref od, .int x, .int y0]) (n := 3) (Nat.le_of_ble_eq_true rfl)
  rw [lg_entry_eq]
  generalize (lg_sl ([.ref od, .int x, .int y0]) ++ List.replicate (3 - (lg_sl ([.ref od, .int x, .int y0])).length) Slot.unset).toArray = ls at hl ⊢
  have hl : lv_has ls 3 [(0, .ref od), (1, .int x), (2, .int y0)] := hl
  refine lv_aload_n hx hb dX1_claimed_0 rfl (lv_at hl 0 rfl) ?_
  refine lv_iload_n hx hb dX1_claimed_1 rfl (lv_at hl 1 rfl) ?_
  refine hw_callR (va_runV (b := od) (As := [.int x]) (rest := []) ⟨hx, hb, hml, hown, ht⟩ (c_isEves l D cI cZ od og ob oe oy oz ot n a q d v Y Z T ok x) (cwV 1 ht (gV wm_X1_X1_isEves wi_X1_isEves ws_X1_isEves wn_X1 wc_X1_isEves) rfl rfl rfl (by decide +kernel) ⟨Nat.le_of_ble_eq_true rfl, Nat.le_of_ble_eq_true rfl⟩) (rPre_V 0 hP hK hN rfl rfl) rfl rfl hl.1 rfl (lv_room (Nat.le_of_ble_eq_true rfl)) dX1_claimed_2 ⟨Nat.zero_le _, Nat.zero_le _⟩) ?_
  refine lv_if_eq (tgt := 21) hx hb dX1_claimed_5 rfl (fun h1 => ?_) (fun h1 => ?_)
  · have h1 : (decide (uN x < n) && !a.testBit (uN x)) = false := (bI_eq0 _).mp h1
    refine lv_iconst (v := nI 0) hx hb dX1_claimed_21 (by decide) ?_
    exact W.iret hx hb hr (fun t ht2 _ => ⟨hw_ret ((if_neg (fun h9 => hw_ev_f h1 h9.1)).symm), ht2⟩) (fun _ h => by cases h) dX1_claimed_22
  · have h1 : (decide (uN x < n) && !a.testBit (uN x)) = true := bI_ne0 h1
    have hE := hw_ev_t h1
    have h32 := sd_p32 h5 (v := uN x) (by omega)
    refine lv_iload_n hx hb dX1_claimed_8 rfl (lv_at hl 2 rfl) ?_
    refine lv_if_lt (tgt := 21) hx hb dX1_claimed_9 rfl (fun h2 => ?_) (fun h2 => ?_)
    · refine lv_iconst (v := nI 0) hx hb dX1_claimed_21 (by decide) ?_
      exact W.iret hx hb hr (fun t ht2 _ => ⟨hw_ret ((if_neg (fun h9 => (hw_pos (by omega) h9.2).1 h2)).symm), ht2⟩) (fun _ h => by cases h) dX1_claimed_22
    · refine lv_iload_n hx hb dX1_claimed_12 rfl (lv_at hl 2 rfl) ?_
      refine lv_aload_n hx hb dX1_claimed_13 rfl (lv_at hl 0 rfl) ?_
      refine lv_iload_n hx hb dX1_claimed_14 rfl (lv_at hl 1 rfl) ?_
      refine lv_nm (y := nI (uN x)) ((nI_uN x).symm) ?_
      refine hw_callR (va_runV (b := od) (As := [.int (nI (uN x))]) (rest := [.int y0]) ⟨hx, hb, hml, hown, ht⟩ (c_sumsBefore l D cI cZ od og ob oe oy oz ot n a q d v Y Z T ok (uN x) (by omega)) (cwV 1 ht (gV wm_X1_X1_sumsBefore wi_X1_sumsBefore ws_X1_sumsBefore wn_X1 wc_X1_sumsBefore) rfl rfl rfl (by decide +kernel) ⟨Nat.le_of_ble_eq_true rfl, Nat.le_of_ble_eq_true rfl⟩) (rPre_V 0 hP hK hN rfl rfl) rfl rfl hl.1 rfl (lv_room (Nat.le_of_ble_eq_true rfl)) dX1_claimed_15 ⟨Nat.zero_le _, Nat.zero_le _⟩) ?_
      refine lv_icmp_lt (tgt := 23) hx hb dX1_claimed_18 rfl (fun h3 => ?_) (fun h3 => ?_)
      · have hy := hw_in' (by omega) h2 h3
        refine lv_aload_n hx hb dX1_claimed_23 rfl (lv_at hl 0 rfl) ?_
        refine va_get (D := D) (ci := 1) (v := .ref ot) (C := RX1) (T := TX1) (N := 10) hx hb ht inX1 hown hK hP 0 rfl rfl 9 (by decide) (ht _ wf_X1_tables) (fun _ h9 => h9) rfl dX1_claimed_24 ?_
        refine lv_iload_n hx hb dX1_claimed_27 rfl (lv_at hl 1 rfl) ?_
        refine lv_nm (y := nI (uN x)) ((nI_uN x).symm) ?_
        refine na_iald (f := T) hx hb hK hP 6 0 rfl rfl (j := uN x) (by omega) (by omega) dX1_claimed_28 ?_
        refine lv_iload_n hx hb dX1_claimed_29 rfl (lv_at hl 2 rfl) ?_
        refine lv_nm (y := nI (uN y0)) ((nI_uN y0).symm) ?_
        refine hw_callR (va_runS (As := [.int (T (uN x)), .int (nI (uN y0))]) (rest := []) ⟨hx, hb, hml, hown, ht⟩ (c_bit l D cI cZ (T (uN x)) (uN y0) (by omega)) (va_cwS 2 ht (gS wm_X1_X1_bit wt_X1_bit wn_X1 wc_X1_bit) rfl rfl rfl (by decide +kernel) ⟨Nat.le_of_ble_eq_true rfl, Nat.le_of_ble_eq_true rfl⟩) (rPre_S (hP.sub [] rfl) hK hN) rfl rfl hl.1 rfl (lv_room (Nat.le_of_ble_eq_true rfl)) dX1_claimed_30 ⟨Nat.zero_le _, Nat.zero_le _⟩) ?_
        exact W.iret hx hb hr (fun t ht2 _ => ⟨hw_ret ((if_pos ⟨hE, hy⟩).symm), ht2⟩) (fun _ h => by cases h) dX1_claimed_33
      · refine lv_iconst (v := nI 0) hx hb dX1_claimed_21 (by decide) ?_
        exact W.iret hx hb hr (fun t ht2 _ => ⟨hw_ret ((if_neg (fun h9 => hw_big' (by omega) h3 h9.2)).symm), ht2⟩) (fun _ h => by cases h) dX1_claimed_22

set_option maxHeartbeats 4000000 in
set_option maxRecDepth 100000 in
theorem c_reply (l : Launch) (D : va_G) (cI cZ : ClassId) (od og ob oe oy oz ot n a q d v : Nat) (Y Z : Nat → Nat) (T : Nat → Int32) (ok : dOk n a q d v Y Z) (x td : Int32) : Met l yX1_reply (kX1_reply :: aW) { frames := 3, cells := 0, slots := 0, locals := 72 } (rPre [.ref od, .int x, .int td] D [(od, .inr (1, [.int (nI n), .int (nI a), .int (nI (2 ^ n - 1 - a)), .ref og, .ref oy, .ref oz, .int (nI q), .int (nI d), .int (nI v), .ref ot])), (og, .inr (0, [.int (nI n), .int (nI a), .ref ob, .ref oe])), (ob, .inl (cI, (2 ^ n), .inl (fun j => nI ((sd_br Y Z q) j)))), (oe, .inl (cZ, (2 * 2 ^ n), .inl (fun j => bI ((sd_ew n a (fun w => sd_br Y Z q w == 0)) j)))), (oy, .inl (cI, 24, .inl (fun j => nI (Y j)))), (oz, .inl (cI, 24, .inl (fun j => nI (Z j)))), (ot, .inl (cI, n, .inl T))] [(cI, .int), (cZ, .boolean)]) (QcRead (if uN x < n then bI (sd_vb n a (fun w => sd_br Y Z q w == 0) (2 ^ n - 1 - a) (uN td) (uN x) (sd_ac (sd_vb n a (fun w => sd_br Y Z q w == 0) (2 ^ n - 1 - a) (uN td)) (uN x))) else -1)) 0 0 (fun _ => False) := by
  obtain ⟨hn1, hn, ha, h5, hq, hY, hZ, hd, hv⟩ := id ok
  have h2n := hw_p10 hn
  refine Met.ofW (cc := cX1_reply) (maxL := 3) (ret := (some .int)) (by decide) rfl ?_
  intro p e s m args below meth c s₁ Bo hml hpre
  obtain ⟨rfl, hP, hK, hN⟩ := hpre
  have hx := Bo.exec
  have hb := Bo.bytes
  have hr := Bo.returns
  have hts := atoms_spec (ws := kX1_reply :: aW) Bo.pre
  have ht : ∀ w ∈ aW, w.before _ s = true := fun w h => hts w (List.mem_cons_of_mem _ h)
  have hown : s.vm.findClass RX1 = some m.cls := findClass_of_methodNamed Bo.named
  have hlocks := Bo.notSynchronized
  have hP : va_P D clS [(od, .inr (1, [.int (nI n), .int (nI a), .int (nI (2 ^ n - 1 - a)), .ref og, .ref oy, .ref oz, .int (nI q), .int (nI d), .int (nI v), .ref ot])), (og, .inr (0, [.int (nI n), .int (nI a), .ref ob, .ref oe])), (ob, .inl (cI, (2 ^ n), .inl (fun j => nI ((sd_br Y Z q) j)))), (oe, .inl (cZ, (2 * 2 ^ n), .inl (fun j => bI ((sd_ew n a (fun w => sd_br Y Z q w == 0)) j)))), (oy, .inl (cI, 24, .inl (fun j => nI (Y j)))), (oz, .inl (cI, 24, .inl (fun j => nI (Z j)))), (ot, .inl (cI, n, .inl T))] s.heap := hP
  have hl := lv_entry ([.ref od, .int x, .int td]) (n := 3) (Nat.le_of_ble_eq_true rfl)
  rw [lg_entry_eq]
  generalize (lg_sl ([.ref od, .int x, .int td]) ++ List.replicate (3 - (lg_sl ([.ref od, .int x, .int td])).length) Slot.unset).toArray = ls at hl ⊢
  have hl : lv_has ls 3 [(0, .ref od), (1, .int x), (2, .int td)] := hl
  refine lv_aload_n hx hb dX1_reply_0 rfl (lv_at hl 0 rfl) ?_
  refine lv_iload_n hx hb dX1_reply_1 rfl (lv_at hl 1 rfl) ?_
  refine hw_callR (va_runV (b := od) (As := [.int x]) (rest := []) ⟨hx, hb, hml, hown, ht⟩ (c_isVariable l D cI cZ od og ob oe oy oz ot n a q d v Y Z T ok x) (cwV 1 ht (gV wm_X1_X1_isVariable wi_X1_isVariable ws_X1_isVariable wn_X1 wc_X1_isVariable) rfl rfl rfl (by decide +kernel) ⟨Nat.le_of_ble_eq_true rfl, Nat.le_of_ble_eq_true rfl⟩) (rPre_V 0 hP hK hN rfl rfl) rfl rfl hl.1 rfl (lv_room (Nat.le_of_ble_eq_true rfl)) dX1_reply_2 ⟨Nat.zero_le _, Nat.zero_le _⟩) ?_
  refine lv_if_eq (tgt := 24) hx hb dX1_reply_5 rfl (fun h1 => ?_) (fun h1 => ?_)
  · have h1 : (decide (uN x < n)) = false := (bI_eq0 _).mp h1
    refine lv_iconst (v := (-1)) hx hb dX1_reply_24 (by decide) ?_
    exact W.iret hx hb hr (fun t ht2 _ => ⟨hw_ret ((if_neg (of_decide_eq_false h1)).symm), ht2⟩) (fun _ h => by cases h) dX1_reply_25
  · have h1 : (decide (uN x < n)) = true := bI_ne0 h1
    have hxn : uN x < n := of_decide_eq_true h1
    have hac := sd_ac_lt (sd_vb n a (fun w => sd_br Y Z q w == 0) (2 ^ n - 1 - a) (uN td)) n
    refine lv_aload_n hx hb dX1_reply_8 rfl (lv_at hl 0 rfl) ?_
    refine lv_aload_n hx hb dX1_reply_9 rfl (lv_at hl 0 rfl) ?_
    refine va_get (D := D) (ci := 1) (v := .int (nI (2 ^ n - 1 - a))) (C := RX1) (T := TX1) (N := 10) hx hb ht inX1 hown hK hP 0 rfl rfl 2 (by decide) (ht _ wf_X1_eveSet) (fun _ h9 => h9) rfl dX1_reply_10 ?_
    refine lv_iload_n hx hb dX1_reply_13 rfl (lv_at hl 2 rfl) ?_
    refine hw_callR (va_runV (b := od) (As := [.int (nI (2 ^ n - 1 - a)), .int td]) (rest := []) ⟨hx, hb, hml, hown, ht⟩ (c_valuesWithBest l D cI cZ od og ob oe oy oz ot n a q d v Y Z T ok (2 ^ n - 1 - a) td (by omega)) (cwV 2 ht (gV wm_X1_X1_valuesWithBest wi_X1_valuesWithBest ws_X1_valuesWithBest wn_X1 wc_X1_valuesWithBest) rfl rfl rfl (by decide +kernel) ⟨Nat.le_of_ble_eq_true rfl, Nat.le_of_ble_eq_true rfl⟩) (rPre_V 0 hP hK hN rfl rfl) rfl rfl hl.1 rfl (lv_room (Nat.le_of_ble_eq_true rfl)) dX1_reply_14 ⟨Nat.zero_le _, Nat.zero_le _⟩) ?_
    refine lv_iload_n hx hb dX1_reply_17 rfl (lv_at hl 1 rfl) ?_
    refine lv_nm (y := nI (uN x)) ((nI_uN x).symm) ?_
    refine hw_callR (va_runS (As := [.int (nI (sd_ac (sd_vb n a (fun w => sd_br Y Z q w == 0) (2 ^ n - 1 - a) (uN td)) n)), .int (nI (uN x))]) (rest := []) ⟨hx, hb, hml, hown, ht⟩ (c_bitn l D cI cZ (sd_ac (sd_vb n a (fun w => sd_br Y Z q w == 0) (2 ^ n - 1 - a) (uN td)) n) (uN x) (by omega) (by omega)) (va_cwS 2 ht (gS wm_X1_X1_bit wt_X1_bit wn_X1 wc_X1_bit) rfl rfl rfl (by decide +kernel) ⟨Nat.le_of_ble_eq_true rfl, Nat.le_of_ble_eq_true rfl⟩) (rPre_S (hP.sub [] rfl) hK hN) rfl rfl hl.1 rfl (lv_room (Nat.le_of_ble_eq_true rfl)) dX1_reply_18 ⟨Nat.zero_le _, Nat.zero_le _⟩) ?_
    refine lv_nm (y := bI (sd_vb n a (fun w => sd_br Y Z q w == 0) (2 ^ n - 1 - a) (uN td) (uN x) (sd_ac (sd_vb n a (fun w => sd_br Y Z q w == 0) (2 ^ n - 1 - a) (uN td)) (uN x)))) (congrArg bI (sd_ac_tb _ n hxn)) ?_
    refine lv_goto (tgt := 25) hx hb dX1_reply_21 rfl ?_
    exact W.iret hx hb hr (fun t ht2 _ => ⟨hw_ret ((if_pos hxn).symm), ht2⟩) (fun _ h => by cases h) dX1_reply_25

set_option maxHeartbeats 4000000 in
set_option maxRecDepth 100000 in
theorem c_answer (l : Launch) (D : va_G) (cI cZ : ClassId) (od og ob oe oy oz ot n a q d v : Nat) (Y Z : Nat → Nat) (T : Nat → Int32) (ok : dOk n a q d v Y Z) (x td : Int32) : Met l yX1_answer (kX1_answer :: aW) { frames := 3, cells := 0, slots := 0, locals := 72 } (rPre [.ref od, .int x, .int td] D [(od, .inr (1, [.int (nI n), .int (nI a), .int (nI (2 ^ n - 1 - a)), .ref og, .ref oy, .ref oz, .int (nI q), .int (nI d), .int (nI v), .ref ot])), (og, .inr (0, [.int (nI n), .int (nI a), .ref ob, .ref oe])), (ob, .inl (cI, (2 ^ n), .inl (fun j => nI ((sd_br Y Z q) j)))), (oe, .inl (cZ, (2 * 2 ^ n), .inl (fun j => bI ((sd_ew n a (fun w => sd_br Y Z q w == 0)) j)))), (oy, .inl (cI, 24, .inl (fun j => nI (Y j)))), (oz, .inl (cI, 24, .inl (fun j => nI (Z j)))), (ot, .inl (cI, n, .inl T))] [(cI, .int), (cZ, .boolean)]) (QcRead (if uN x < n then bI (sd_vb n a (fun w => sd_br Y Z q w == 0) a (uN td) (uN x) (sd_ac (sd_vb n a (fun w => sd_br Y Z q w == 0) a (uN td)) (uN x))) else -1)) 0 0 (fun _ => False) := by
  obtain ⟨hn1, hn, ha, h5, hq, hY, hZ, hd, hv⟩ := id ok
  have h2n := hw_p10 hn
  refine Met.ofW (cc := cX1_answer) (maxL := 3) (ret := (some .int)) (by decide) rfl ?_
  intro p e s m args below meth c s₁ Bo hml hpre
  obtain ⟨rfl, hP, hK, hN⟩ := hpre
  have hx := Bo.exec
  have hb := Bo.bytes
  have hr := Bo.returns
  have hts := atoms_spec (ws := kX1_answer :: aW) Bo.pre
  have ht : ∀ w ∈ aW, w.before _ s = true := fun w h => hts w (List.mem_cons_of_mem _ h)
  have hown : s.vm.findClass RX1 = some m.cls := findClass_of_methodNamed Bo.named
  have hlocks := Bo.notSynchronized
  have hP : va_P D clS [(od, .inr (1, [.int (nI n), .int (nI a), .int (nI (2 ^ n - 1 - a)), .ref og, .ref oy, .ref oz, .int (nI q), .int (nI d), .int (nI v), .ref ot])), (og, .inr (0, [.int (nI n), .int (nI a), .ref ob, .ref oe])), (ob, .inl (cI, (2 ^ n), .inl (fun j => nI ((sd_br Y Z q) j)))), (oe, .inl (cZ, (2 * 2 ^ n), .inl (fun j => bI ((sd_ew n a (fun w => sd_br Y Z q w == 0)) j)))), (oy, .inl (cI, 24, .inl (fun j => nI (Y j)))), (oz, .inl (cI, 24, .inl (fun j => nI (Z j)))), (ot, .inl (cI, n, .inl T))] s.heap := hP
  have hl := lv_entry ([.ref od, .int x, .int td]) (n := 3) (Nat.le_of_ble_eq_true rfl)
  rw [lg_entry_eq]
  generalize (lg_sl ([.ref od, .int x, .int td]) ++ List.replicate (3 - (lg_sl ([.ref od, .int x, .int td])).length) Slot.unset).toArray = ls at hl ⊢
  have hl : lv_has ls 3 [(0, .ref od), (1, .int x), (2, .int td)] := hl
  refine lv_aload_n hx hb dX1_answer_0 rfl (lv_at hl 0 rfl) ?_
  refine lv_iload_n hx hb dX1_answer_1 rfl (lv_at hl 1 rfl) ?_
  refine hw_callR (va_runV (b := od) (As := [.int x]) (rest := []) ⟨hx, hb, hml, hown, ht⟩ (c_isVariable l D cI cZ od og ob oe oy oz ot n a q d v Y Z T ok x) (cwV 1 ht (gV wm_X1_X1_isVariable wi_X1_isVariable ws_X1_isVariable wn_X1 wc_X1_isVariable) rfl rfl rfl (by decide +kernel) ⟨Nat.le_of_ble_eq_true rfl, Nat.le_of_ble_eq_true rfl⟩) (rPre_V 0 hP hK hN rfl rfl) rfl rfl hl.1 rfl (lv_room (Nat.le_of_ble_eq_true rfl)) dX1_answer_2 ⟨Nat.zero_le _, Nat.zero_le _⟩) ?_
  refine lv_if_eq (tgt := 24) hx hb dX1_answer_5 rfl (fun h1 => ?_) (fun h1 => ?_)
  · have h1 : (decide (uN x < n)) = false := (bI_eq0 _).mp h1
    refine lv_iconst (v := (-1)) hx hb dX1_answer_24 (by decide) ?_
    exact W.iret hx hb hr (fun t ht2 _ => ⟨hw_ret ((if_neg (of_decide_eq_false h1)).symm), ht2⟩) (fun _ h => by cases h) dX1_answer_25
  · have h1 : (decide (uN x < n)) = true := bI_ne0 h1
    have hxn : uN x < n := of_decide_eq_true h1
    have hac := sd_ac_lt (sd_vb n a (fun w => sd_br Y Z q w == 0) a (uN td)) n
    refine lv_aload_n hx hb dX1_answer_8 rfl (lv_at hl 0 rfl) ?_
    refine lv_aload_n hx hb dX1_answer_9 rfl (lv_at hl 0 rfl) ?_
    refine va_get (D := D) (ci := 1) (v := .int (nI a)) (C := RX1) (T := TX1) (N := 10) hx hb ht inX1 hown hK hP 0 rfl rfl 1 (by decide) (ht _ wf_X1_adamSet) (fun _ h9 => h9) rfl dX1_answer_10 ?_
    refine lv_iload_n hx hb dX1_answer_13 rfl (lv_at hl 2 rfl) ?_
    refine hw_callR (va_runV (b := od) (As := [.int (nI a), .int td]) (rest := []) ⟨hx, hb, hml, hown, ht⟩ (c_valuesWithBest l D cI cZ od og ob oe oy oz ot n a q d v Y Z T ok a td (by omega)) (cwV 2 ht (gV wm_X1_X1_valuesWithBest wi_X1_valuesWithBest ws_X1_valuesWithBest wn_X1 wc_X1_valuesWithBest) rfl rfl rfl (by decide +kernel) ⟨Nat.le_of_ble_eq_true rfl, Nat.le_of_ble_eq_true rfl⟩) (rPre_V 0 hP hK hN rfl rfl) rfl rfl hl.1 rfl (lv_room (Nat.le_of_ble_eq_true rfl)) dX1_answer_14 ⟨Nat.zero_le _, Nat.zero_le _⟩) ?_
    refine lv_iload_n hx hb dX1_answer_17 rfl (lv_at hl 1 rfl) ?_
    refine lv_nm (y := nI (uN x)) ((nI_uN x).symm) ?_
    refine hw_callR (va_runS (As := [.int (nI (sd_ac (sd_vb n a (fun w => sd_br Y Z q w == 0) a (uN td)) n)), .int (nI (uN x))]) (rest := []) ⟨hx, hb, hml, hown, ht⟩ (c_bitn l D cI cZ (sd_ac (sd_vb n a (fun w => sd_br Y Z q w == 0) a (uN td)) n) (uN x) (by omega) (by omega)) (va_cwS 2 ht (gS wm_X1_X1_bit wt_X1_bit wn_X1 wc_X1_bit) rfl rfl rfl (by decide +kernel) ⟨Nat.le_of_ble_eq_true rfl, Nat.le_of_ble_eq_true rfl⟩) (rPre_S (hP.sub [] rfl) hK hN) rfl rfl hl.1 rfl (lv_room (Nat.le_of_ble_eq_true rfl)) dX1_answer_18 ⟨Nat.zero_le _, Nat.zero_le _⟩) ?_
    refine lv_nm (y := bI (sd_vb n a (fun w => sd_br Y Z q w == 0) a (uN td) (uN x) (sd_ac (sd_vb n a (fun w => sd_br Y Z q w == 0) a (uN td)) (uN x)))) (congrArg bI (sd_ac_tb _ n hxn)) ?_
    refine lv_goto (tgt := 25) hx hb dX1_answer_21 rfl ?_
    exact W.iret hx hb hr (fun t ht2 _ => ⟨hw_ret ((if_pos hxn).symm), ht2⟩) (fun _ h => by cases h) dX1_answer_25

set_option maxHeartbeats 4000000 in
set_option maxRecDepth 100000 in
theorem c_models (l : Launch) (D : va_G) (cI cZ : ClassId) (od og ob oe oy oz ot n a q d v : Nat) (Y Z : Nat → Nat) (T : Nat → Int32) (ok : dOk n a q d v Y Z) : Met l yX1_models (kX1_models :: aW) { frames := 1, cells := 0, slots := 0, locals := 22 } (rPre [.ref od] D [(od, .inr (1, [.int (nI n), .int (nI a), .int (nI (2 ^ n - 1 - a)), .ref og, .ref oy, .ref oz, .int (nI q), .int (nI d), .int (nI v), .ref ot])), (og, .inr (0, [.int (nI n), .int (nI a), .ref ob, .ref oe])), (ob, .inl (cI, (2 ^ n), .inl (fun j => nI ((sd_br Y Z q) j)))), (oe, .inl (cZ, (2 * 2 ^ n), .inl (fun j => bI ((sd_ew n a (fun w => sd_br Y Z q w == 0)) j)))), (oy, .inl (cI, 24, .inl (fun j => nI (Y j)))), (oz, .inl (cI, 24, .inl (fun j => nI (Z j)))), (ot, .inl (cI, n, .inl T))] [(cI, .int), (cZ, .boolean)]) (QcRead (nI (sd_cn (fun w => sd_br Y Z q w == 0) (2 ^ n)))) 0 0 (fun _ => False) := by
  obtain ⟨hn1, hn, ha, h5, hq, hY, hZ, hd, hv⟩ := id ok
  have h2n := hw_p10 hn
  refine Met.ofW (cc := cX1_models) (maxL := 1) (ret := (some .int)) (by decide) rfl ?_
  intro p e s m args below meth c s₁ Bo hml hpre
  obtain ⟨rfl, hP, hK, hN⟩ := hpre
  have hx := Bo.exec
  have hb := Bo.bytes
  have hr := Bo.returns
  have hts := atoms_spec (ws := kX1_models :: aW) Bo.pre
  have ht : ∀ w ∈ aW, w.before _ s = true := fun w h => hts w (List.mem_cons_of_mem _ h)
  have hown : s.vm.findClass RX1 = some m.cls := findClass_of_methodNamed Bo.named
  have hlocks := Bo.notSynchronized
  have hP : va_P D clS [(od, .inr (1, [.int (nI n), .int (nI a), .int (nI (2 ^ n - 1 - a)), .ref og, .ref oy, .ref oz, .int (nI q), .int (nI d), .int (nI v), .ref ot])), (og, .inr (0, [.int (nI n), .int (nI a), .ref ob, .ref oe])), (ob, .inl (cI, (2 ^ n), .inl (fun j => nI ((sd_br Y Z q) j)))), (oe, .inl (cZ, (2 * 2 ^ n), .inl (fun j => bI ((sd_ew n a (fun w => sd_br Y Z q w == 0)) j)))), (oy, .inl (cI, 24, .inl (fun j => nI (Y j)))), (oz, .inl (cI, 24, .inl (fun j => nI (Z j)))), (ot, .inl (cI, n, .inl T))] s.heap := hP
  have hl := lv_entry ([.ref od]) (n := 1) (Nat.le_of_ble_eq_true rfl)
  rw [lg_entry_eq]
  generalize (lg_sl ([.ref od]) ++ List.replicate (1 - (lg_sl ([.ref od])).length) Slot.unset).toArray = ls at hl ⊢
  have hl : lv_has ls 1 [(0, .ref od)] := hl
  refine lv_aload_n hx hb dX1_models_0 rfl (lv_at hl 0 rfl) ?_
  refine va_get (D := D) (ci := 1) (v := .ref og) (C := RX1) (T := TX1) (N := 10) hx hb ht inX1 hown hK hP 0 rfl rfl 3 (by decide) (ht _ wf_X1_game) (fun _ h9 => h9) rfl dX1_models_1 ?_
  refine hw_callR (va_runV (b := og) (As := []) (rest := []) ⟨hx, hb, hml, hown, ht⟩ (c_countModels l D cI cZ og ob oe n a (sd_br Y Z q) (sd_ew n a (fun w => sd_br Y Z q w == 0)) hn (fun u _ => Nat.lt_of_le_of_lt (sd_br_le Y Z u q) (by omega))) (cwV 0 ht (gV wm_X1_X0_countModels wi_X0_countModels ws_X0_countModels wn_X0 wc_X0_countModels) rfl rfl rfl (by decide +kernel) ⟨Nat.le_of_ble_eq_true rfl, Nat.le_of_ble_eq_true rfl⟩) (rPre_V 0 (hP.sub [1, 2, 3] rfl) hK hN rfl rfl) rfl rfl hl.1 rfl (lv_room (Nat.le_of_ble_eq_true rfl)) dX1_models_4 ⟨Nat.zero_le _, Nat.zero_le _⟩) ?_
  exact W.iret hx hb hr (fun t ht2 _ => ⟨hw_ret (rfl), ht2⟩) (fun _ h => by cases h) dX1_models_7
end
section
/-! Contracts of StrategyDesk: what changes its cells. -/
theorem hw_clr : ∀ d, d < 10 → ∀ v, v < 2 ^ (d + 1) → nI v &&& (nI (2 ^ d) ^^^ (-1)) = nI (v % 2 ^ d) := by decide +kernel
theorem sd_in {b : Nat} {fl : Bool} {st : Int32} (hst : st = nI 1) : (if fl = true then nI b + st else nI b) = nI (b + fl.toNat) := by
  subst hst
  cases fl
  · rfl
  · exact nI_add b 1
theorem sd_out {b q : Nat} {fl : Bool} {st : Int32} (hst : st = -1) (h : b = q + fl.toNat) : (if fl = true then nI b + st else nI b) = nI q := by
  subst hst
  subst h
  cases fl
  · rfl
  · exact pk_m1 q
theorem sd_brl (Y Z : Nat → Nat) {q : Nat} (hq : q ≤ 25) (u : Nat) : sd_br Y Z q u < 2 ^ 31 := Nat.lt_of_le_of_lt (sd_br_le Y Z u q) (by omega)
theorem sd_sh_0 (Y : Nat → Nat) (i j : Nat) : Y j = sd_sh Y i i j := (if_neg (by omega)).symm
theorem sd_sh_s (Y : Nat → Nat) {i r : Nat} (hi : i ≤ r) (j : Nat) : va_up (sd_sh Y i r) r (sd_sh Y i r (r + 1)) j = sd_sh Y i (r + 1) j := by
  have e : sd_sh Y i r (r + 1) = Y (r + 1) := if_neg (by omega)
  rw [e]
  by_cases hj : j = r
  · subst hj
    rw [va_up_self]
    exact (if_pos (by omega)).symm
  · rw [va_up_ne _ _ hj]
    unfold sd_sh
    by_cases h : i ≤ j ∧ j < r
    · rw [if_pos h, if_pos (by omega)]
    · rw [if_neg h, if_neg (by omega)]
theorem sd_sh_lt {Y : Nat → Nat} {N i c : Nat} (h : ∀ j, Y j < N) (j : Nat) : sd_sh Y i c j < N := by
  unfold sd_sh
  by_cases h2 : i ≤ j ∧ j < c
  · rw [if_pos h2]; exact h _
  · rw [if_neg h2]; exact h _
theorem va_up_lt {Y : Nat → Nat} {N i x : Nat} (h : ∀ j, Y j < N) (hx : x < N) (j : Nat) : va_up Y i x j < N := by
  by_cases hj : j = i
  · subst hj
    rw [va_up_self]; exact hx
  · rw [va_up_ne _ _ hj]; exact h j

set_option maxHeartbeats 4000000 in
set_option maxRecDepth 100000 in
theorem c_claim_no (l : Launch) (D : va_G) (cI cZ : ClassId) (od og ob oe oy oz ot n a q d v : Nat) (Y Z : Nat → Nat) (T : Nat → Int32) (ok : dOk n a q d v Y Z) (x tb : Int32) (hno : ¬ (uN x < n ∧ a.testBit (uN x) = false)) : Met l yX1_claim (kX1_claim :: aW) { frames := 2, cells := 0, slots := 0, locals := 42 } (rPre [.ref od, .int x, .int tb] D [(od, .inr (1, [.int (nI n), .int (nI a), .int (nI (2 ^ n - 1 - a)), .ref og, .ref oy, .ref oz, .int (nI q), .int (nI d), .int (nI v), .ref ot])), (og, .inr (0, [.int (nI n), .int (nI a), .ref ob, .ref oe])), (ob, .inl (cI, (2 ^ n), .inl (fun jq => nI ((sd_br Y Z q) jq)))), (oe, .inl (cZ, (2 * 2 ^ n), .inl (fun jq => bI ((sd_ew n a (fun w => sd_br Y Z q w == 0)) jq)))), (oy, .inl (cI, 24, .inl (fun jq => nI (Y jq)))), (oz, .inl (cI, 24, .inl (fun jq => nI (Z jq)))), (ot, .inl (cI, n, .inl T))] [(cI, .int), (cZ, .boolean)]) (QcRead (bI false)) 0 0 (fun _ => False) := by
  obtain ⟨hn1, hn, ha, h5, hq, hY, hZ, hd, hv⟩ := id ok
  have h2n := hw_p10 hn
  refine Met.ofW (cc := cX1_claim) (maxL := 3) (ret := (some .boolean)) (by decide) rfl ?_
  intro p e s m args below meth c s₁ Bo hml hpre
  obtain ⟨rfl, hP, hK, hN⟩ := hpre
  have hx := Bo.exec
  have hb := Bo.bytes
  have hr := Bo.returns
  have hts := atoms_spec (ws := kX1_claim :: aW) Bo.pre
  have ht : ∀ w ∈ aW, w.before _ s = true := fun w h => hts w (List.mem_cons_of_mem _ h)
  have hown : s.vm.findClass RX1 = some m.cls := findClass_of_methodNamed Bo.named
  have hlocks := Bo.notSynchronized
  have hP : va_P D clS [(od, .inr (1, [.int (nI n), .int (nI a), .int (nI (2 ^ n - 1 - a)), .ref og, .ref oy, .ref oz, .int (nI q), .int (nI d), .int (nI v), .ref ot])), (og, .inr (0, [.int (nI n), .int (nI a), .ref ob, .ref oe])), (ob, .inl (cI, (2 ^ n), .inl (fun jq => nI ((sd_br Y Z q) jq)))), (oe, .inl (cZ, (2 * 2 ^ n), .inl (fun jq => bI ((sd_ew n a (fun w => sd_br Y Z q w == 0)) jq)))), (oy, .inl (cI, 24, .inl (fun jq => nI (Y jq)))), (oz, .inl (cI, 24, .inl (fun jq => nI (Z jq)))), (ot, .inl (cI, n, .inl T))] s.heap := hP
  have hl := lv_entry ([.ref od, .int x, .int tb]) (n := 3) (Nat.le_of_ble_eq_true rfl)
  rw [lg_entry_eq]
  generalize (lg_sl ([.ref od, .int x, .int tb]) ++ List.replicate (3 - (lg_sl ([.ref od, .int x, .int tb])).length) Slot.unset).toArray = ls at hl ⊢
  have hl : lv_has ls 3 [(0, .ref od), (1, .int x), (2, .int tb)] := hl
  refine lv_aload_n hx hb dX1_claim_0 rfl (lv_at hl 0 rfl) ?_
  refine lv_iload_n hx hb dX1_claim_1 rfl (lv_at hl 1 rfl) ?_
  refine hw_callR (va_runV (b := od) (As := [.int x]) (rest := []) ⟨hx, hb, hml, hown, ht⟩ (c_isEves l D cI cZ od og ob oe oy oz ot n a q d v Y Z T ok x) (cwV 1 ht (gV wm_X1_X1_isEves wi_X1_isEves ws_X1_isEves wn_X1 wc_X1_isEves) rfl rfl rfl (by decide +kernel) ⟨Nat.le_of_ble_eq_true rfl, Nat.le_of_ble_eq_true rfl⟩) (rPre_V 0 hP hK hN rfl rfl) rfl rfl hl.1 rfl (lv_room (Nat.le_of_ble_eq_true rfl)) dX1_claim_2 ⟨Nat.zero_le _, Nat.zero_le _⟩) ?_
  refine lv_if_ne (tgt := 10) hx hb dX1_claim_5 rfl (fun h1 => ?_) (fun h1 => ?_)
  · have h1 : (decide (uN x < n) && !a.testBit (uN x)) = true := bI_ne0 h1
    exact absurd (hw_ev_t h1) hno
  · have h1 : (decide (uN x < n) && !a.testBit (uN x)) = false := (bI_eq0 _).mp h1
    refine lv_iconst (v := nI 0) hx hb dX1_claim_8 (by decide) ?_
    exact W.zret hx hb hr rfl (fun t ht2 _ => ⟨hw_ret (rfl), ht2⟩) (fun _ h => by cases h) dX1_claim_9

set_option maxHeartbeats 4000000 in
set_option maxRecDepth 100000 in
theorem c_claim (l : Launch) (D : va_G) (cI cZ : ClassId) (od og ob oe oy oz ot n a q d v : Nat) (Y Z : Nat → Nat) (T : Nat → Int32) (ok : dOk n a q d v Y Z) (sz : Nat) (i : Nat) (tb : Int32) (hi : i < n) (hE : a.testBit i = false) : Met l yX1_claim (kX1_claim :: aW) { frames := 2, cells := 0, slots := 0, locals := 42 } (wPre [.ref od, .int (nI i), .int tb] D [(od, .inr (1, [.int (nI n), .int (nI a), .int (nI (2 ^ n - 1 - a)), .ref og, .ref oy, .ref oz, .int (nI q), .int (nI d), .int (nI v), .ref ot])), (og, .inr (0, [.int (nI n), .int (nI a), .ref ob, .ref oe])), (ob, .inl (cI, (2 ^ n), .inl (fun jq => nI ((sd_br Y Z q) jq)))), (oe, .inl (cZ, (2 * 2 ^ n), .inl (fun jq => bI ((sd_ew n a (fun w => sd_br Y Z q w == 0)) jq)))), (oy, .inl (cI, 24, .inl (fun jq => nI (Y jq)))), (oz, .inl (cI, 24, .inl (fun jq => nI (Z jq)))), (ot, .inl (cI, n, .inl T))] [(cI, .int), (cZ, .boolean)] sz) (wQ (some (.int (bI true))) D [(od, .inr (1, [.int (nI n), .int (nI a), .int (nI (2 ^ n - 1 - a)), .ref og, .ref oy, .ref oz, .int (nI q), .int (nI d), .int (nI v), .ref ot])), (og, .inr (0, [.int (nI n), .int (nI a), .ref ob, .ref oe])), (ob, .inl (cI, (2 ^ n), .inl (fun jq => nI ((sd_br Y Z q) jq)))), (oe, .inl (cZ, (2 * 2 ^ n), .inl (fun jq => bI ((sd_ew n a (fun w => sd_br Y Z q w == 0)) jq)))), (oy, .inl (cI, 24, .inl (fun jq => nI (Y jq)))), (oz, .inl (cI, 24, .inl (fun jq => nI (Z jq)))), (ot, .inl (cI, n, .inl (upd T i tb)))] (va_A [(od, .inr (1, [.int (nI n), .int (nI a), .int (nI (2 ^ n - 1 - a)), .ref og, .ref oy, .ref oz, .int (nI q), .int (nI d), .int (nI v), .ref ot])), (og, .inr (0, [.int (nI n), .int (nI a), .ref ob, .ref oe])), (ob, .inl (cI, (2 ^ n), .inl (fun jq => nI ((sd_br Y Z q) jq)))), (oe, .inl (cZ, (2 * 2 ^ n), .inl (fun jq => bI ((sd_ew n a (fun w => sd_br Y Z q w == 0)) jq)))), (oy, .inl (cI, 24, .inl (fun jq => nI (Y jq)))), (oz, .inl (cI, 24, .inl (fun jq => nI (Z jq)))), (ot, .inl (cI, n, .inl T))] sz)) 0 0 (va_A [(od, .inr (1, [.int (nI n), .int (nI a), .int (nI (2 ^ n - 1 - a)), .ref og, .ref oy, .ref oz, .int (nI q), .int (nI d), .int (nI v), .ref ot])), (og, .inr (0, [.int (nI n), .int (nI a), .ref ob, .ref oe])), (ob, .inl (cI, (2 ^ n), .inl (fun jq => nI ((sd_br Y Z q) jq)))), (oe, .inl (cZ, (2 * 2 ^ n), .inl (fun jq => bI ((sd_ew n a (fun w => sd_br Y Z q w == 0)) jq)))), (oy, .inl (cI, 24, .inl (fun jq => nI (Y jq)))), (oz, .inl (cI, 24, .inl (fun jq => nI (Z jq)))), (ot, .inl (cI, n, .inl T))] sz) := by
  obtain ⟨hn1, hn, ha, h5, hq, hY, hZ, hd, hv⟩ := id ok
  have h2n := hw_p10 hn
  refine Met.ofW (cc := cX1_claim) (maxL := 3) (ret := (some .boolean)) (by decide) rfl ?_
  intro p e s m args below meth c s₁ Bo hml hpre
  obtain ⟨rfl, hsz, hP, hK, hN, hD0⟩ := hpre
  subst hsz
  have hD := hD0.self (sz := s.heap.size)
  generalize hAe : va_A [(od, .inr (1, [.int (nI n), .int (nI a), .int (nI (2 ^ n - 1 - a)), .ref og, .ref oy, .ref oz, .int (nI q), .int (nI d), .int (nI v), .ref ot])), (og, .inr (0, [.int (nI n), .int (nI a), .ref ob, .ref oe])), (ob, .inl (cI, (2 ^ n), .inl (fun jq => nI ((sd_br Y Z q) jq)))), (oe, .inl (cZ, (2 * 2 ^ n), .inl (fun jq => bI ((sd_ew n a (fun w => sd_br Y Z q w == 0)) jq)))), (oy, .inl (cI, 24, .inl (fun jq => nI (Y jq)))), (oz, .inl (cI, 24, .inl (fun jq => nI (Z jq)))), (ot, .inl (cI, n, .inl T))] s.heap.size = A at hD ⊢
  have hA : ∀ q : Nat, s.heap.size ≤ q → A q := fun q h => by rw [← hAe]; exact Or.inr h
  have hS : va_S A s.heap s.heap [] := va_S.rf
  have hx := Bo.exec
  have hb := Bo.bytes
  have hr := Bo.returns
  have hts := atoms_spec (ws := kX1_claim :: aW) Bo.pre
  have ht : ∀ w ∈ aW, w.before _ s = true := fun w h => hts w (List.mem_cons_of_mem _ h)
  have hown : s.vm.findClass RX1 = some m.cls := findClass_of_methodNamed Bo.named
  have hlocks := Bo.notSynchronized
  have hP : va_P D clS [(od, .inr (1, [.int (nI n), .int (nI a), .int (nI (2 ^ n - 1 - a)), .ref og, .ref oy, .ref oz, .int (nI q), .int (nI d), .int (nI v), .ref ot])), (og, .inr (0, [.int (nI n), .int (nI a), .ref ob, .ref oe])), (ob, .inl (cI, (2 ^ n), .inl (fun jq => nI ((sd_br Y Z q) jq)))), (oe, .inl (cZ, (2 * 2 ^ n), .inl (fun jq => bI ((sd_ew n a (fun w => sd_br Y Z q w == 0)) jq)))), (oy, .inl (cI, 24, .inl (fun jq => nI (Y jq)))), (oz, .inl (cI, 24, .inl (fun jq => nI (Z jq)))), (ot, .inl (cI, n, .inl T))] s.heap := hP
  have hl := lv_entry ([.ref od, .int (nI i), .int tb]) (n := 3) (Nat.le_of_ble_eq_true rfl)
  rw [lg_entry_eq]
  generalize (lg_sl ([.ref od, .int (nI i), .int tb]) ++ List.replicate (3 - (lg_sl ([.ref od, .int (nI i), .int tb])).length) Slot.unset).toArray = ls at hl ⊢
  have hl : lv_has ls 3 [(0, .ref od), (1, .int (nI i)), (2, .int tb)] := hl
  refine lv_aload_n hx hb dX1_claim_0 rfl (lv_at hl 0 rfl) ?_
  refine lv_iload_n hx hb dX1_claim_1 rfl (lv_at hl 1 rfl) ?_
  refine hw_callR (va_runV (b := od) (As := [.int (nI i)]) (rest := []) ⟨hx, hb, hml, hown, ht⟩ (c_isEves l D cI cZ od og ob oe oy oz ot n a q d v Y Z T ok (nI i)) (cwV 1 ht (gV wm_X1_X1_isEves wi_X1_isEves ws_X1_isEves wn_X1 wc_X1_isEves) rfl rfl rfl (by decide +kernel) ⟨Nat.le_of_ble_eq_true rfl, Nat.le_of_ble_eq_true rfl⟩) (rPre_V 0 hP hK hN rfl rfl) rfl rfl hl.1 rfl (lv_room (Nat.le_of_ble_eq_true rfl)) dX1_claim_2 ⟨Nat.zero_le _, Nat.zero_le _⟩) ?_
  refine lv_nm (y := bI (!a.testBit i)) (congrArg bI (hw_ev0 (by omega) (by omega))) ?_
  have hE2 : (!a.testBit i) = true := by rw [hE]; rfl
  refine lv_if_ne (tgt := 10) hx hb dX1_claim_5 rfl (fun h1 => ?_) (fun h1 => ?_)
  · have h1 : (!a.testBit i) = true := bI_ne0 h1
    refine lv_aload_n hx hb dX1_claim_10 rfl (lv_at hl 0 rfl) ?_
    refine va_get (D := D) (ci := 1) (v := .ref ot) (C := RX1) (T := TX1) (N := 10) hx hb ht inX1 hown hK hP 0 rfl rfl 9 (by decide) (ht _ wf_X1_tables) (fun _ h9 => h9) rfl dX1_claim_11 ?_
    refine lv_iload_n hx hb dX1_claim_14 rfl (lv_at hl 1 rfl) ?_
    refine lv_iload_n hx hb dX1_claim_15 rfl (lv_at hl 2 rfl) ?_
    refine na_iast (f := T) (x := tb) hx hb hK hP hD hS 6 0 rfl rfl (j := i) (by omega) (by omega) dX1_claim_16 (fun H locs hP hD hS => ?_)
    have hP : va_P D clS [(od, .inr (1, [.int (nI n), .int (nI a), .int (nI (2 ^ n - 1 - a)), .ref og, .ref oy, .ref oz, .int (nI q), .int (nI d), .int (nI v), .ref ot])), (og, .inr (0, [.int (nI n), .int (nI a), .ref ob, .ref oe])), (ob, .inl (cI, (2 ^ n), .inl (fun jq => nI ((sd_br Y Z q) jq)))), (oe, .inl (cZ, (2 * 2 ^ n), .inl (fun jq => bI ((sd_ew n a (fun w => sd_br Y Z q w == 0)) jq)))), (oy, .inl (cI, 24, .inl (fun jq => nI (Y jq)))), (oz, .inl (cI, 24, .inl (fun jq => nI (Z jq)))), (ot, .inl (cI, n, .inl (upd T i tb)))] H := hP
    have hD : va_D A [(od, .inr (1, [.int (nI n), .int (nI a), .int (nI (2 ^ n - 1 - a)), .ref og, .ref oy, .ref oz, .int (nI q), .int (nI d), .int (nI v), .ref ot])), (og, .inr (0, [.int (nI n), .int (nI a), .ref ob, .ref oe])), (ob, .inl (cI, (2 ^ n), .inl (fun jq => nI ((sd_br Y Z q) jq)))), (oe, .inl (cZ, (2 * 2 ^ n), .inl (fun jq => bI ((sd_ew n a (fun w => sd_br Y Z q w == 0)) jq)))), (oy, .inl (cI, 24, .inl (fun jq => nI (Y jq)))), (oz, .inl (cI, 24, .inl (fun jq => nI (Z jq)))), (ot, .inl (cI, n, .inl (upd T i tb)))] := hD
    refine lv_iconst (v := nI 1) hx hb dX1_claim_17 (by decide) ?_
    exact W.zret hx hb hr rfl (fun t ht2 _ => ⟨hw_ret (rfl), by rw [ht2]; exact hP, hS.F ht2⟩) hS.2.2 dX1_claim_18
  · have h1 : (!a.testBit i) = false := (bI_eq0 _).mp h1
    exact absurd (hE2.symm.trans h1) (by decide)

set_option maxHeartbeats 4000000 in
set_option maxRecDepth 100000 in
theorem c_play_no (l : Launch) (D : va_G) (cI cZ : ClassId) (od og ob oe oy oz ot n a q d v : Nat) (Y Z : Nat → Nat) (T : Nat → Int32) (ok : dOk n a q d v Y Z) (x : Int32) (hno : ¬ (uN x < 2 ∧ d < n)) : Met l yX1_play (kX1_play :: aW) { frames := 0, cells := 0, slots := 0, locals := 0 } (rPre [.ref od, .int x] D [(od, .inr (1, [.int (nI n), .int (nI a), .int (nI (2 ^ n - 1 - a)), .ref og, .ref oy, .ref oz, .int (nI q), .int (nI d), .int (nI v), .ref ot])), (og, .inr (0, [.int (nI n), .int (nI a), .ref ob, .ref oe])), (ob, .inl (cI, (2 ^ n), .inl (fun jq => nI ((sd_br Y Z q) jq)))), (oe, .inl (cZ, (2 * 2 ^ n), .inl (fun jq => bI ((sd_ew n a (fun w => sd_br Y Z q w == 0)) jq)))), (oy, .inl (cI, 24, .inl (fun jq => nI (Y jq)))), (oz, .inl (cI, 24, .inl (fun jq => nI (Z jq)))), (ot, .inl (cI, n, .inl T))] [(cI, .int), (cZ, .boolean)]) (QcRead (-1)) 0 0 (fun _ => False) := by
  obtain ⟨hn1, hn, ha, h5, hq, hY, hZ, hd, hv⟩ := id ok
  have h2n := hw_p10 hn
  refine Met.ofW (cc := cX1_play) (maxL := 2) (ret := (some .int)) (by decide) rfl ?_
  intro p e s m args below meth c s₁ Bo hml hpre
  obtain ⟨rfl, hP, hK, hN⟩ := hpre
  have hx := Bo.exec
  have hb := Bo.bytes
  have hr := Bo.returns
  have hts := atoms_spec (ws := kX1_play :: aW) Bo.pre
  have ht : ∀ w ∈ aW, w.before _ s = true := fun w h => hts w (List.mem_cons_of_mem _ h)
  have hown : s.vm.findClass RX1 = some m.cls := findClass_of_methodNamed Bo.named
  have hlocks := Bo.notSynchronized
  have hP : va_P D clS [(od, .inr (1, [.int (nI n), .int (nI a), .int (nI (2 ^ n - 1 - a)), .ref og, .ref oy, .ref oz, .int (nI q), .int (nI d), .int (nI v), .ref ot])), (og, .inr (0, [.int (nI n), .int (nI a), .ref ob, .ref oe])), (ob, .inl (cI, (2 ^ n), .inl (fun jq => nI ((sd_br Y Z q) jq)))), (oe, .inl (cZ, (2 * 2 ^ n), .inl (fun jq => bI ((sd_ew n a (fun w => sd_br Y Z q w == 0)) jq)))), (oy, .inl (cI, 24, .inl (fun jq => nI (Y jq)))), (oz, .inl (cI, 24, .inl (fun jq => nI (Z jq)))), (ot, .inl (cI, n, .inl T))] s.heap := hP
  have hl := lv_entry ([.ref od, .int x]) (n := 2) (Nat.le_of_ble_eq_true rfl)
  rw [lg_entry_eq]
  generalize (lg_sl ([.ref od, .int x]) ++ List.replicate (2 - (lg_sl ([.ref od, .int x])).length) Slot.unset).toArray = ls at hl ⊢
  have hl : lv_has ls 2 [(0, .ref od), (1, .int x)] := hl
  refine lv_iload_n hx hb dX1_play_0 rfl (lv_at hl 1 rfl) ?_
  refine lv_if_eq (tgt := 9) hx hb dX1_play_1 rfl (fun h1 => ?_) (fun h1 => ?_)
  · refine lv_aload_n hx hb dX1_play_9 rfl (lv_at hl 0 rfl) ?_
    refine va_get (D := D) (ci := 1) (v := .int (nI d)) (C := RX1) (T := TX1) (N := 10) hx hb ht inX1 hown hK hP 0 rfl rfl 7 (by decide) (ht _ wf_X1_playDepth) (fun _ h9 => h9) rfl dX1_play_10 ?_
    refine lv_aload_n hx hb dX1_play_13 rfl (lv_at hl 0 rfl) ?_
    refine va_get (D := D) (ci := 1) (v := .int (nI n)) (C := RX1) (T := TX1) (N := 10) hx hb ht inX1 hown hK hP 0 rfl rfl 0 (by decide) (ht _ wf_X1_size) (fun _ h9 => h9) rfl dX1_play_14 ?_
    refine lv_icmp_lt (tgt := 22) hx hb dX1_play_17 rfl (fun h2 => ?_) (fun h2 => ?_)
    · have h2 : d < n := (nI_ltI (by omega) (by omega)).mp h2
      exact absurd ⟨by subst h1; decide, by omega⟩ hno
    · have h2 : ¬ (d < n) := fun h9 => h2 ((nI_ltI (by omega) (by omega)).mpr h9)
      refine lv_iconst (v := (-1)) hx hb dX1_play_20 (by decide) ?_
      exact W.iret hx hb hr (fun t ht2 _ => ⟨hw_ret (rfl), ht2⟩) (fun _ h => by cases h) dX1_play_21
  · refine lv_iload_n hx hb dX1_play_4 rfl (lv_at hl 1 rfl) ?_
    refine lv_iconst (v := nI 1) hx hb dX1_play_5 (by decide) ?_
    refine lv_icmp_ne (tgt := 20) hx hb dX1_play_6 rfl (fun h2 => ?_) (fun h2 => ?_)
    · refine lv_iconst (v := (-1)) hx hb dX1_play_20 (by decide) ?_
      exact W.iret hx hb hr (fun t ht2 _ => ⟨hw_ret (rfl), ht2⟩) (fun _ h => by cases h) dX1_play_21
    · refine lv_aload_n hx hb dX1_play_9 rfl (lv_at hl 0 rfl) ?_
      refine va_get (D := D) (ci := 1) (v := .int (nI d)) (C := RX1) (T := TX1) (N := 10) hx hb ht inX1 hown hK hP 0 rfl rfl 7 (by decide) (ht _ wf_X1_playDepth) (fun _ h9 => h9) rfl dX1_play_10 ?_
      refine lv_aload_n hx hb dX1_play_13 rfl (lv_at hl 0 rfl) ?_
      refine va_get (D := D) (ci := 1) (v := .int (nI n)) (C := RX1) (T := TX1) (N := 10) hx hb ht inX1 hown hK hP 0 rfl rfl 0 (by decide) (ht _ wf_X1_size) (fun _ h9 => h9) rfl dX1_play_14 ?_
      refine lv_icmp_lt (tgt := 22) hx hb dX1_play_17 rfl (fun h3 => ?_) (fun h3 => ?_)
      · have h3 : d < n := (nI_ltI (by omega) (by omega)).mp h3
        exact absurd ⟨by subst h2; decide, by omega⟩ hno
      · have h3 : ¬ (d < n) := fun h9 => h3 ((nI_ltI (by omega) (by omega)).mpr h9)
        refine lv_iconst (v := (-1)) hx hb dX1_play_20 (by decide) ?_
        exact W.iret hx hb hr (fun t ht2 _ => ⟨hw_ret (rfl), ht2⟩) (fun _ h => by cases h) dX1_play_21

set_option maxHeartbeats 4000000 in
set_option maxRecDepth 100000 in
theorem c_play (l : Launch) (D : va_G) (cI cZ : ClassId) (od og ob oe oy oz ot n a q d v : Nat) (Y Z : Nat → Nat) (T : Nat → Int32) (ok : dOk n a q d v Y Z) (sz : Nat) (b : Bool) (hdn : d < n) : Met l yX1_play (kX1_play :: aW) { frames := 0, cells := 0, slots := 0, locals := 0 } (wPre [.ref od, .int (bI b)] D [(od, .inr (1, [.int (nI n), .int (nI a), .int (nI (2 ^ n - 1 - a)), .ref og, .ref oy, .ref oz, .int (nI q), .int (nI d), .int (nI v), .ref ot])), (og, .inr (0, [.int (nI n), .int (nI a), .ref ob, .ref oe])), (ob, .inl (cI, (2 ^ n), .inl (fun jq => nI ((sd_br Y Z q) jq)))), (oe, .inl (cZ, (2 * 2 ^ n), .inl (fun jq => bI ((sd_ew n a (fun w => sd_br Y Z q w == 0)) jq)))), (oy, .inl (cI, 24, .inl (fun jq => nI (Y jq)))), (oz, .inl (cI, 24, .inl (fun jq => nI (Z jq)))), (ot, .inl (cI, n, .inl T))] [(cI, .int), (cZ, .boolean)] sz) (wQ (some (.int (nI d))) D [(od, .inr (1, [.int (nI n), .int (nI a), .int (nI (2 ^ n - 1 - a)), .ref og, .ref oy, .ref oz, .int (nI q), .int (nI (d + 1)), .int (nI (v + b.toNat * 2 ^ d)), .ref ot])), (og, .inr (0, [.int (nI n), .int (nI a), .ref ob, .ref oe])), (ob, .inl (cI, (2 ^ n), .inl (fun jq => nI ((sd_br Y Z q) jq)))), (oe, .inl (cZ, (2 * 2 ^ n), .inl (fun jq => bI ((sd_ew n a (fun w => sd_br Y Z q w == 0)) jq)))), (oy, .inl (cI, 24, .inl (fun jq => nI (Y jq)))), (oz, .inl (cI, 24, .inl (fun jq => nI (Z jq)))), (ot, .inl (cI, n, .inl T))] (va_A [(od, .inr (1, [.int (nI n), .int (nI a), .int (nI (2 ^ n - 1 - a)), .ref og, .ref oy, .ref oz, .int (nI q), .int (nI d), .int (nI v), .ref ot])), (og, .inr (0, [.int (nI n), .int (nI a), .ref ob, .ref oe])), (ob, .inl (cI, (2 ^ n), .inl (fun jq => nI ((sd_br Y Z q) jq)))), (oe, .inl (cZ, (2 * 2 ^ n), .inl (fun jq => bI ((sd_ew n a (fun w => sd_br Y Z q w == 0)) jq)))), (oy, .inl (cI, 24, .inl (fun jq => nI (Y jq)))), (oz, .inl (cI, 24, .inl (fun jq => nI (Z jq)))), (ot, .inl (cI, n, .inl T))] sz)) 0 0 (va_A [(od, .inr (1, [.int (nI n), .int (nI a), .int (nI (2 ^ n - 1 - a)), .ref og, .ref oy, .ref oz, .int (nI q), .int (nI d), .int (nI v), .ref ot])), (og, .inr (0, [.int (nI n), .int (nI a), .ref ob, .ref oe])), (ob, .inl (cI, (2 ^ n), .inl (fun jq => nI ((sd_br Y Z q) jq)))), (oe, .inl (cZ, (2 * 2 ^ n), .inl (fun jq => bI ((sd_ew n a (fun w => sd_br Y Z q w == 0)) jq)))), (oy, .inl (cI, 24, .inl (fun jq => nI (Y jq)))), (oz, .inl (cI, 24, .inl (fun jq => nI (Z jq)))), (ot, .inl (cI, n, .inl T))] sz) := by
  obtain ⟨hn1, hn, ha, h5, hq, hY, hZ, hd, hv⟩ := id ok
  have h2n := hw_p10 hn
  refine Met.ofW (cc := cX1_play) (maxL := 2) (ret := (some .int)) (by decide) rfl ?_
  intro p e s m args below meth c s₁ Bo hml hpre
  obtain ⟨rfl, hsz, hP, hK, hN, hD0⟩ := hpre
  subst hsz
  have hD := hD0.self (sz := s.heap.size)
  generalize hAe : va_A [(od, .inr (1, [.int (nI n), .int (nI a), .int (nI (2 ^ n - 1 - a)), .ref og, .ref oy, .ref oz, .int (nI q), .int (nI d), .int (nI v), .ref ot])), (og, .inr (0, [.int (nI n), .int (nI a), .ref ob, .ref oe])), (ob, .inl (cI, (2 ^ n), .inl (fun jq => nI ((sd_br Y Z q) jq)))), (oe, .inl (cZ, (2 * 2 ^ n), .inl (fun jq => bI ((sd_ew n a (fun w => sd_br Y Z q w == 0)) jq)))), (oy, .inl (cI, 24, .inl (fun jq => nI (Y jq)))), (oz, .inl (cI, 24, .inl (fun jq => nI (Z jq)))), (ot, .inl (cI, n, .inl T))] s.heap.size = A at hD ⊢
  have hA : ∀ q : Nat, s.heap.size ≤ q → A q := fun q h => by rw [← hAe]; exact Or.inr h
  have hS : va_S A s.heap s.heap [] := va_S.rf
  have hx := Bo.exec
  have hb := Bo.bytes
  have hr := Bo.returns
  have hts := atoms_spec (ws := kX1_play :: aW) Bo.pre
  have ht : ∀ w ∈ aW, w.before _ s = true := fun w h => hts w (List.mem_cons_of_mem _ h)
  have hown : s.vm.findClass RX1 = some m.cls := findClass_of_methodNamed Bo.named
  have hlocks := Bo.notSynchronized
  have hP : va_P D clS [(od, .inr (1, [.int (nI n), .int (nI a), .int (nI (2 ^ n - 1 - a)), .ref og, .ref oy, .ref oz, .int (nI q), .int (nI d), .int (nI v), .ref ot])), (og, .inr (0, [.int (nI n), .int (nI a), .ref ob, .ref oe])), (ob, .inl (cI, (2 ^ n), .inl (fun jq => nI ((sd_br Y Z q) jq)))), (oe, .inl (cZ, (2 * 2 ^ n), .inl (fun jq => bI ((sd_ew n a (fun w => sd_br Y Z q w == 0)) jq)))), (oy, .inl (cI, 24, .inl (fun jq => nI (Y jq)))), (oz, .inl (cI, 24, .inl (fun jq => nI (Z jq)))), (ot, .inl (cI, n, .inl T))] s.heap := hP
  have hl := lv_entry ([.ref od, .int (bI b)]) (n := 2) (Nat.le_of_ble_eq_true rfl)
  rw [lg_entry_eq]
  generalize (lg_sl ([.ref od, .int (bI b)]) ++ List.replicate (2 - (lg_sl ([.ref od, .int (bI b)])).length) Slot.unset).toArray = ls at hl ⊢
  have hl : lv_has ls 2 [(0, .ref od), (1, .int (bI b))] := hl
  refine lv_iload_n hx hb dX1_play_0 rfl (lv_at hl 1 rfl) ?_
  suffices mk : W p l e (headSpec (kX1_play :: aW) { frames := 0, cells := 0, slots := 0, locals := 0 }).room s m (([.ref od, .int (bI b)] : List Value).toArray) below meth c s.heap [] 0 0 (MQ below (wQ (some (.int (nI d))) D [(od, .inr (1, [.int (nI n), .int (nI a), .int (nI (2 ^ n - 1 - a)), .ref og, .ref oy, .ref oz, .int (nI q), .int (nI (d + 1)), .int (nI (v + b.toNat * 2 ^ d)), .ref ot])), (og, .inr (0, [.int (nI n), .int (nI a), .ref ob, .ref oe])), (ob, .inl (cI, (2 ^ n), .inl (fun jq => nI ((sd_br Y Z q) jq)))), (oe, .inl (cZ, (2 * 2 ^ n), .inl (fun jq => bI ((sd_ew n a (fun w => sd_br Y Z q w == 0)) jq)))), (oy, .inl (cI, 24, .inl (fun jq => nI (Y jq)))), (oz, .inl (cI, 24, .inl (fun jq => nI (Z jq)))), (ot, .inl (cI, n, .inl T))] A) (([.ref od, .int (bI b)] : List Value).toArray) s 0 0 A) (F0 m 9 ls []) by
    refine lv_if_eq (tgt := 9) hx hb dX1_play_1 rfl (fun h1 => ?_) (fun h1 => ?_)
    · have h1 : b = false := (bI_eq0 _).mp h1
      exact mk
    · have h1 : b = true := bI_ne0 h1
      refine lv_iload_n hx hb dX1_play_4 rfl (lv_at hl 1 rfl) ?_
      refine lv_iconst (v := nI 1) hx hb dX1_play_5 (by decide) ?_
      refine lv_icmp_ne (tgt := 20) hx hb dX1_play_6 rfl (fun h2 => ?_) (fun h2 => ?_)
      · have h2 : b = false := bI_ne1 h2
        exact absurd (h1.symm.trans h2) (by decide)
      · have h2 : b = true := (bI_eq1 _).mp h2
        exact mk
  refine lv_aload_n hx hb dX1_play_9 rfl (lv_at hl 0 rfl) ?_
  refine va_get (D := D) (ci := 1) (v := .int (nI d)) (C := RX1) (T := TX1) (N := 10) hx hb ht inX1 hown hK hP 0 rfl rfl 7 (by decide) (ht _ wf_X1_playDepth) (fun _ h9 => h9) rfl dX1_play_10 ?_
  refine lv_aload_n hx hb dX1_play_13 rfl (lv_at hl 0 rfl) ?_
  refine va_get (D := D) (ci := 1) (v := .int (nI n)) (C := RX1) (T := TX1) (N := 10) hx hb ht inX1 hown hK hP 0 rfl rfl 0 (by decide) (ht _ wf_X1_size) (fun _ h9 => h9) rfl dX1_play_14 ?_
  refine lv_icmp_lt (tgt := 22) hx hb dX1_play_17 rfl (fun _ => ?_) (fun hc => absurd (show ¬ (d < n) from fun h9 => hc ((nI_ltI (by omega) (by omega)).mpr h9)) (by omega))
  refine lv_aload_n hx hb dX1_play_22 rfl (lv_at hl 0 rfl) ?_
  refine lv_dup hx hb dX1_play_23 rfl ?_
  refine va_get (D := D) (ci := 1) (v := .int (nI v)) (C := RX1) (T := TX1) (N := 10) hx hb ht inX1 hown hK hP 0 rfl rfl 8 (by decide) (ht _ wf_X1_playValues) (fun _ h9 => h9) rfl dX1_play_24 ?_
  refine lv_iload_n hx hb dX1_play_27 rfl (lv_at hl 1 rfl) ?_
  refine lv_aload_n hx hb dX1_play_28 rfl (lv_at hl 0 rfl) ?_
  refine va_get (D := D) (ci := 1) (v := .int (nI d)) (C := RX1) (T := TX1) (N := 10) hx hb ht inX1 hown hK hP 0 rfl rfl 7 (by decide) (ht _ wf_X1_playDepth) (fun _ h9 => h9) rfl dX1_play_29 ?_
  refine lv_ishl hx hb dX1_play_32 ?_
  refine lv_nm (y := nI (b.toNat * 2 ^ d)) (hw_bshl _ (by omega)) ?_
  refine lv_ior hx hb dX1_play_33 ?_
  refine lv_nm (y := nI (v ||| (b.toNat * 2 ^ d))) (hw_or _ _) ?_
  refine lv_nm (y := nI (v + b.toNat * 2 ^ d)) (congrArg nI (hw_orb (Nat.testBit_lt_two_pow hv) b)) ?_
  refine va_put (D := D) (ci := 1) (v := .int (nI (v + b.toNat * 2 ^ d))) (ty := .int) (C := RX1) (T := TX1) (N := 10) hx hb ht inX1 tyX1 tyX1_ok nmX1 hown hK hP hD hS 0 rfl rfl 8 (by decide) (ht _ wf_X1_playValues) (fun _ h9 => h9) rfl (by decide +kernel) rfl rfl (Nat.le_of_ble_eq_true rfl) dX1_play_34 (fun H locs hP hD hS => ?_)
  have hP : va_P D clS [(od, .inr (1, [.int (nI n), .int (nI a), .int (nI (2 ^ n - 1 - a)), .ref og, .ref oy, .ref oz, .int (nI q), .int (nI d), .int (nI (v + b.toNat * 2 ^ d)), .ref ot])), (og, .inr (0, [.int (nI n), .int (nI a), .ref ob, .ref oe])), (ob, .inl (cI, (2 ^ n), .inl (fun jq => nI ((sd_br Y Z q) jq)))), (oe, .inl (cZ, (2 * 2 ^ n), .inl (fun jq => bI ((sd_ew n a (fun w => sd_br Y Z q w == 0)) jq)))), (oy, .inl (cI, 24, .inl (fun jq => nI (Y jq)))), (oz, .inl (cI, 24, .inl (fun jq => nI (Z jq)))), (ot, .inl (cI, n, .inl T))] H := hP
  have hD : va_D A [(od, .inr (1, [.int (nI n), .int (nI a), .int (nI (2 ^ n - 1 - a)), .ref og, .ref oy, .ref oz, .int (nI q), .int (nI d), .int (nI (v + b.toNat * 2 ^ d)), .ref ot])), (og, .inr (0, [.int (nI n), .int (nI a), .ref ob, .ref oe])), (ob, .inl (cI, (2 ^ n), .inl (fun jq => nI ((sd_br Y Z q) jq)))), (oe, .inl (cZ, (2 * 2 ^ n), .inl (fun jq => bI ((sd_ew n a (fun w => sd_br Y Z q w == 0)) jq)))), (oy, .inl (cI, 24, .inl (fun jq => nI (Y jq)))), (oz, .inl (cI, 24, .inl (fun jq => nI (Z jq)))), (ot, .inl (cI, n, .inl T))] := hD
  refine lv_aload_n hx hb dX1_play_37 rfl (lv_at hl 0 rfl) ?_
  refine lv_dup hx hb dX1_play_38 rfl ?_
  refine va_get (D := D) (ci := 1) (v := .int (nI d)) (C := RX1) (T := TX1) (N := 10) hx hb ht inX1 hown hK hP 0 rfl rfl 7 (by decide) (ht _ wf_X1_playDepth) (fun _ h9 => h9) rfl dX1_play_39 ?_
  refine lv_iconst (v := nI 1) hx hb dX1_play_42 (by decide) ?_
  refine lv_iadd hx hb dX1_play_43 ?_
  refine lv_nm (y := nI (d + 1)) (nI_add _ _) ?_
  refine va_put (D := D) (ci := 1) (v := .int (nI (d + 1))) (ty := .int) (C := RX1) (T := TX1) (N := 10) hx hb ht inX1 tyX1 tyX1_ok nmX1 hown hK hP hD hS 0 rfl rfl 7 (by decide) (ht _ wf_X1_playDepth) (fun _ h9 => h9) rfl (by decide +kernel) rfl rfl (Nat.le_of_ble_eq_true rfl) dX1_play_44 (fun H locs hP hD hS => ?_)
  have hP : va_P D clS [(od, .inr (1, [.int (nI n), .int (nI a), .int (nI (2 ^ n - 1 - a)), .ref og, .ref oy, .ref oz, .int (nI q), .int (nI (d + 1)), .int (nI (v + b.toNat * 2 ^ d)), .ref ot])), (og, .inr (0, [.int (nI n), .int (nI a), .ref ob, .ref oe])), (ob, .inl (cI, (2 ^ n), .inl (fun jq => nI ((sd_br Y Z q) jq)))), (oe, .inl (cZ, (2 * 2 ^ n), .inl (fun jq => bI ((sd_ew n a (fun w => sd_br Y Z q w == 0)) jq)))), (oy, .inl (cI, 24, .inl (fun jq => nI (Y jq)))), (oz, .inl (cI, 24, .inl (fun jq => nI (Z jq)))), (ot, .inl (cI, n, .inl T))] H := hP
  have hD : va_D A [(od, .inr (1, [.int (nI n), .int (nI a), .int (nI (2 ^ n - 1 - a)), .ref og, .ref oy, .ref oz, .int (nI q), .int (nI (d + 1)), .int (nI (v + b.toNat * 2 ^ d)), .ref ot])), (og, .inr (0, [.int (nI n), .int (nI a), .ref ob, .ref oe])), (ob, .inl (cI, (2 ^ n), .inl (fun jq => nI ((sd_br Y Z q) jq)))), (oe, .inl (cZ, (2 * 2 ^ n), .inl (fun jq => bI ((sd_ew n a (fun w => sd_br Y Z q w == 0)) jq)))), (oy, .inl (cI, 24, .inl (fun jq => nI (Y jq)))), (oz, .inl (cI, 24, .inl (fun jq => nI (Z jq)))), (ot, .inl (cI, n, .inl T))] := hD
  refine lv_aload_n hx hb dX1_play_47 rfl (lv_at hl 0 rfl) ?_
  refine va_get (D := D) (ci := 1) (v := .int (nI (d + 1))) (C := RX1) (T := TX1) (N := 10) hx hb ht inX1 hown hK hP 0 rfl rfl 7 (by decide) (ht _ wf_X1_playDepth) (fun _ h9 => h9) rfl dX1_play_48 ?_
  refine lv_iconst (v := nI 1) hx hb dX1_play_51 (by decide) ?_
  refine lv_isub hx hb dX1_play_52 ?_
  refine lv_nm (y := nI d) (nI_pred _) ?_
  exact W.iret hx hb hr (fun t ht2 _ => ⟨hw_ret (rfl), by rw [ht2]; exact hP, hS.F ht2⟩) hS.2.2 dX1_play_53

set_option maxHeartbeats 4000000 in
set_option maxRecDepth 100000 in
theorem c_undo_no (l : Launch) (D : va_G) (cI cZ : ClassId) (od og ob oe oy oz ot n a q d v : Nat) (Y Z : Nat → Nat) (T : Nat → Int32) (ok : dOk n a q d v Y Z) (hd0 : d = 0) : Met l yX1_undo (kX1_undo :: aW) { frames := 0, cells := 0, slots := 0, locals := 0 } (rPre [.ref od] D [(od, .inr (1, [.int (nI n), .int (nI a), .int (nI (2 ^ n - 1 - a)), .ref og, .ref oy, .ref oz, .int (nI q), .int (nI d), .int (nI v), .ref ot])), (og, .inr (0, [.int (nI n), .int (nI a), .ref ob, .ref oe])), (ob, .inl (cI, (2 ^ n), .inl (fun jq => nI ((sd_br Y Z q) jq)))), (oe, .inl (cZ, (2 * 2 ^ n), .inl (fun jq => bI ((sd_ew n a (fun w => sd_br Y Z q w == 0)) jq)))), (oy, .inl (cI, 24, .inl (fun jq => nI (Y jq)))), (oz, .inl (cI, 24, .inl (fun jq => nI (Z jq)))), (ot, .inl (cI, n, .inl T))] [(cI, .int), (cZ, .boolean)]) (QcRead (bI false)) 0 0 (fun _ => False) := by
  obtain ⟨hn1, hn, ha, h5, hq, hY, hZ, hd, hv⟩ := id ok
  have h2n := hw_p10 hn
  refine Met.ofW (cc := cX1_undo) (maxL := 1) (ret := (some .boolean)) (by decide) rfl ?_
  intro p e s m args below meth c s₁ Bo hml hpre
  obtain ⟨rfl, hP, hK, hN⟩ := hpre
  have hx := Bo.exec
  have hb := Bo.bytes
  have hr := Bo.returns
  have hts := atoms_spec (ws := kX1_undo :: aW) Bo.pre
  have ht : ∀ w ∈ aW, w.before _ s = true := fun w h => hts w (List.mem_cons_of_mem _ h)
  have hown : s.vm.findClass RX1 = some m.cls := findClass_of_methodNamed Bo.named
  have hlocks := Bo.notSynchronized
  have hP : va_P D clS [(od, .inr (1, [.int (nI n), .int (nI a), .int (nI (2 ^ n - 1 - a)), .ref og, .ref oy, .ref oz, .int (nI q), .int (nI d), .int (nI v), .ref ot])), (og, .inr (0, [.int (nI n), .int (nI a), .ref ob, .ref oe])), (ob, .inl (cI, (2 ^ n), .inl (fun jq => nI ((sd_br Y Z q) jq)))), (oe, .inl (cZ, (2 * 2 ^ n), .inl (fun jq => bI ((sd_ew n a (fun w => sd_br Y Z q w == 0)) jq)))), (oy, .inl (cI, 24, .inl (fun jq => nI (Y jq)))), (oz, .inl (cI, 24, .inl (fun jq => nI (Z jq)))), (ot, .inl (cI, n, .inl T))] s.heap := hP
  have hl := lv_entry ([.ref od]) (n := 1) (Nat.le_of_ble_eq_true rfl)
  rw [lg_entry_eq]
  generalize (lg_sl ([.ref od]) ++ List.replicate (1 - (lg_sl ([.ref od])).length) Slot.unset).toArray = ls at hl ⊢
  have hl : lv_has ls 1 [(0, .ref od)] := hl
  refine lv_aload_n hx hb dX1_undo_0 rfl (lv_at hl 0 rfl) ?_
  refine va_get (D := D) (ci := 1) (v := .int (nI d)) (C := RX1) (T := TX1) (N := 10) hx hb ht inX1 hown hK hP 0 rfl rfl 7 (by decide) (ht _ wf_X1_playDepth) (fun _ h9 => h9) rfl dX1_undo_1 ?_
  refine lv_if_gt (tgt := 9) hx hb dX1_undo_4 rfl (fun h1 => ?_) (fun h1 => ?_)
  · have h1 : 0 < d := hw_gt0 h1
    omega
  · have h1 : d = 0 := hw_ngt0 (by omega) h1
    refine lv_iconst (v := nI 0) hx hb dX1_undo_7 (by decide) ?_
    exact W.zret hx hb hr rfl (fun t ht2 _ => ⟨hw_ret (rfl), ht2⟩) (fun _ h => by cases h) dX1_undo_8

set_option maxHeartbeats 4000000 in
set_option maxRecDepth 100000 in
theorem c_undo (l : Launch) (D : va_G) (cI cZ : ClassId) (od og ob oe oy oz ot n a q e0 v : Nat) (Y Z : Nat → Nat) (T : Nat → Int32) (ok : dOk n a q (e0 + 1) v Y Z) (sz : Nat) : Met l yX1_undo (kX1_undo :: aW) { frames := 0, cells := 0, slots := 0, locals := 0 } (wPre [.ref od] D [(od, .inr (1, [.int (nI n), .int (nI a), .int (nI (2 ^ n - 1 - a)), .ref og, .ref oy, .ref oz, .int (nI q), .int (nI (e0 + 1)), .int (nI v), .ref ot])), (og, .inr (0, [.int (nI n), .int (nI a), .ref ob, .ref oe])), (ob, .inl (cI, (2 ^ n), .inl (fun jq => nI ((sd_br Y Z q) jq)))), (oe, .inl (cZ, (2 * 2 ^ n), .inl (fun jq => bI ((sd_ew n a (fun w => sd_br Y Z q w == 0)) jq)))), (oy, .inl (cI, 24, .inl (fun jq => nI (Y jq)))), (oz, .inl (cI, 24, .inl (fun jq => nI (Z jq)))), (ot, .inl (cI, n, .inl T))] [(cI, .int), (cZ, .boolean)] sz) (wQ (some (.int (bI true))) D [(od, .inr (1, [.int (nI n), .int (nI a), .int (nI (2 ^ n - 1 - a)), .ref og, .ref oy, .ref oz, .int (nI q), .int (nI e0), .int (nI (v % 2 ^ e0)), .ref ot])), (og, .inr (0, [.int (nI n), .int (nI a), .ref ob, .ref oe])), (ob, .inl (cI, (2 ^ n), .inl (fun jq => nI ((sd_br Y Z q) jq)))), (oe, .inl (cZ, (2 * 2 ^ n), .inl (fun jq => bI ((sd_ew n a (fun w => sd_br Y Z q w == 0)) jq)))), (oy, .inl (cI, 24, .inl (fun jq => nI (Y jq)))), (oz, .inl (cI, 24, .inl (fun jq => nI (Z jq)))), (ot, .inl (cI, n, .inl T))] (va_A [(od, .inr (1, [.int (nI n), .int (nI a), .int (nI (2 ^ n - 1 - a)), .ref og, .ref oy, .ref oz, .int (nI q), .int (nI (e0 + 1)), .int (nI v), .ref ot])), (og, .inr (0, [.int (nI n), .int (nI a), .ref ob, .ref oe])), (ob, .inl (cI, (2 ^ n), .inl (fun jq => nI ((sd_br Y Z q) jq)))), (oe, .inl (cZ, (2 * 2 ^ n), .inl (fun jq => bI ((sd_ew n a (fun w => sd_br Y Z q w == 0)) jq)))), (oy, .inl (cI, 24, .inl (fun jq => nI (Y jq)))), (oz, .inl (cI, 24, .inl (fun jq => nI (Z jq)))), (ot, .inl (cI, n, .inl T))] sz)) 0 0 (va_A [(od, .inr (1, [.int (nI n), .int (nI a), .int (nI (2 ^ n - 1 - a)), .ref og, .ref oy, .ref oz, .int (nI q), .int (nI (e0 + 1)), .int (nI v), .ref ot])), (og, .inr (0, [.int (nI n), .int (nI a), .ref ob, .ref oe])), (ob, .inl (cI, (2 ^ n), .inl (fun jq => nI ((sd_br Y Z q) jq)))), (oe, .inl (cZ, (2 * 2 ^ n), .inl (fun jq => bI ((sd_ew n a (fun w => sd_br Y Z q w == 0)) jq)))), (oy, .inl (cI, 24, .inl (fun jq => nI (Y jq)))), (oz, .inl (cI, 24, .inl (fun jq => nI (Z jq)))), (ot, .inl (cI, n, .inl T))] sz) := by
  obtain ⟨hn1, hn, ha, h5, hq, hY, hZ, hd, hv⟩ := id ok
  have h2n := hw_p10 hn
  refine Met.ofW (cc := cX1_undo) (maxL := 1) (ret := (some .boolean)) (by decide) rfl ?_
  intro p e s m args below meth c s₁ Bo hml hpre
  obtain ⟨rfl, hsz, hP, hK, hN, hD0⟩ := hpre
  subst hsz
  have hD := hD0.self (sz := s.heap.size)
  generalize hAe : va_A [(od, .inr (1, [.int (nI n), .int (nI a), .int (nI (2 ^ n - 1 - a)), .ref og, .ref oy, .ref oz, .int (nI q), .int (nI (e0 + 1)), .int (nI v), .ref ot])), (og, .inr (0, [.int (nI n), .int (nI a), .ref ob, .ref oe])), (ob, .inl (cI, (2 ^ n), .inl (fun jq => nI ((sd_br Y Z q) jq)))), (oe, .inl (cZ, (2 * 2 ^ n), .inl (fun jq => bI ((sd_ew n a (fun w => sd_br Y Z q w == 0)) jq)))), (oy, .inl (cI, 24, .inl (fun jq => nI (Y jq)))), (oz, .inl (cI, 24, .inl (fun jq => nI (Z jq)))), (ot, .inl (cI, n, .inl T))] s.heap.size = A at hD ⊢
  have hA : ∀ q : Nat, s.heap.size ≤ q → A q := fun q h => by rw [← hAe]; exact Or.inr h
  have hS : va_S A s.heap s.heap [] := va_S.rf
  have hx := Bo.exec
  have hb := Bo.bytes
  have hr := Bo.returns
  have hts := atoms_spec (ws := kX1_undo :: aW) Bo.pre
  have ht : ∀ w ∈ aW, w.before _ s = true := fun w h => hts w (List.mem_cons_of_mem _ h)
  have hown : s.vm.findClass RX1 = some m.cls := findClass_of_methodNamed Bo.named
  have hlocks := Bo.notSynchronized
  have hP : va_P D clS [(od, .inr (1, [.int (nI n), .int (nI a), .int (nI (2 ^ n - 1 - a)), .ref og, .ref oy, .ref oz, .int (nI q), .int (nI (e0 + 1)), .int (nI v), .ref ot])), (og, .inr (0, [.int (nI n), .int (nI a), .ref ob, .ref oe])), (ob, .inl (cI, (2 ^ n), .inl (fun jq => nI ((sd_br Y Z q) jq)))), (oe, .inl (cZ, (2 * 2 ^ n), .inl (fun jq => bI ((sd_ew n a (fun w => sd_br Y Z q w == 0)) jq)))), (oy, .inl (cI, 24, .inl (fun jq => nI (Y jq)))), (oz, .inl (cI, 24, .inl (fun jq => nI (Z jq)))), (ot, .inl (cI, n, .inl T))] s.heap := hP
  have hl := lv_entry ([.ref od]) (n := 1) (Nat.le_of_ble_eq_true rfl)
  rw [lg_entry_eq]
  generalize (lg_sl ([.ref od]) ++ List.replicate (1 - (lg_sl ([.ref od])).length) Slot.unset).toArray = ls at hl ⊢
  have hl : lv_has ls 1 [(0, .ref od)] := hl
  refine lv_aload_n hx hb dX1_undo_0 rfl (lv_at hl 0 rfl) ?_
  refine va_get (D := D) (ci := 1) (v := .int (nI (e0 + 1))) (C := RX1) (T := TX1) (N := 10) hx hb ht inX1 hown hK hP 0 rfl rfl 7 (by decide) (ht _ wf_X1_playDepth) (fun _ h9 => h9) rfl dX1_undo_1 ?_
  refine lv_if_gt (tgt := 9) hx hb dX1_undo_4 rfl (fun h1 => ?_) (fun h1 => ?_)
  · have h1 : 0 < e0 + 1 := hw_gt0 h1
    refine lv_aload_n hx hb dX1_undo_9 rfl (lv_at hl 0 rfl) ?_
    refine lv_dup hx hb dX1_undo_10 rfl ?_
    refine va_get (D := D) (ci := 1) (v := .int (nI (e0 + 1))) (C := RX1) (T := TX1) (N := 10) hx hb ht inX1 hown hK hP 0 rfl rfl 7 (by decide) (ht _ wf_X1_playDepth) (fun _ h9 => h9) rfl dX1_undo_11 ?_
    refine lv_iconst (v := nI 1) hx hb dX1_undo_14 (by decide) ?_
    refine lv_isub hx hb dX1_undo_15 ?_
    refine lv_nm (y := nI e0) (nI_pred _) ?_
    refine va_put (D := D) (ci := 1) (v := .int (nI e0)) (ty := .int) (C := RX1) (T := TX1) (N := 10) hx hb ht inX1 tyX1 tyX1_ok nmX1 hown hK hP hD hS 0 rfl rfl 7 (by decide) (ht _ wf_X1_playDepth) (fun _ h9 => h9) rfl (by decide +kernel) rfl rfl (Nat.le_of_ble_eq_true rfl) dX1_undo_16 (fun H locs hP hD hS => ?_)
    have hP : va_P D clS [(od, .inr (1, [.int (nI n), .int (nI a), .int (nI (2 ^ n - 1 - a)), .ref og, .ref oy, .ref oz, .int (nI q), .int (nI e0), .int (nI v), .ref ot])), (og, .inr (0, [.int (nI n), .int (nI a), .ref ob, .ref oe])), (ob, .inl (cI, (2 ^ n), .inl (fun jq => nI ((sd_br Y Z q) jq)))), (oe, .inl (cZ, (2 * 2 ^ n), .inl (fun jq => bI ((sd_ew n a (fun w => sd_br Y Z q w == 0)) jq)))), (oy, .inl (cI, 24, .inl (fun jq => nI (Y jq)))), (oz, .inl (cI, 24, .inl (fun jq => nI (Z jq)))), (ot, .inl (cI, n, .inl T))] H := hP
    have hD : va_D A [(od, .inr (1, [.int (nI n), .int (nI a), .int (nI (2 ^ n - 1 - a)), .ref og, .ref oy, .ref oz, .int (nI q), .int (nI e0), .int (nI v), .ref ot])), (og, .inr (0, [.int (nI n), .int (nI a), .ref ob, .ref oe])), (ob, .inl (cI, (2 ^ n), .inl (fun jq => nI ((sd_br Y Z q) jq)))), (oe, .inl (cZ, (2 * 2 ^ n), .inl (fun jq => bI ((sd_ew n a (fun w => sd_br Y Z q w == 0)) jq)))), (oy, .inl (cI, 24, .inl (fun jq => nI (Y jq)))), (oz, .inl (cI, 24, .inl (fun jq => nI (Z jq)))), (ot, .inl (cI, n, .inl T))] := hD
    refine lv_aload_n hx hb dX1_undo_19 rfl (lv_at hl 0 rfl) ?_
    refine lv_dup hx hb dX1_undo_20 rfl ?_
    refine va_get (D := D) (ci := 1) (v := .int (nI v)) (C := RX1) (T := TX1) (N := 10) hx hb ht inX1 hown hK hP 0 rfl rfl 8 (by decide) (ht _ wf_X1_playValues) (fun _ h9 => h9) rfl dX1_undo_21 ?_
    refine lv_iconst (v := nI 1) hx hb dX1_undo_24 (by decide) ?_
    refine lv_aload_n hx hb dX1_undo_25 rfl (lv_at hl 0 rfl) ?_
    refine va_get (D := D) (ci := 1) (v := .int (nI e0)) (C := RX1) (T := TX1) (N := 10) hx hb ht inX1 hown hK hP 0 rfl rfl 7 (by decide) (ht _ wf_X1_playDepth) (fun _ h9 => h9) rfl dX1_undo_26 ?_
    refine lv_ishl hx hb dX1_undo_29 ?_
    refine lv_nm (y := nI (2 ^ e0)) (hw_shl1' (by omega)) ?_
    refine lv_iconst (v := (-1)) hx hb dX1_undo_30 (by decide) ?_
    refine lv_ixor hx hb dX1_undo_31 ?_
    refine lv_iand hx hb dX1_undo_32 ?_
    refine lv_nm (y := nI (v % 2 ^ e0)) (hw_clr e0 (by omega) v hv) ?_
    refine va_put (D := D) (ci := 1) (v := .int (nI (v % 2 ^ e0))) (ty := .int) (C := RX1) (T := TX1) (N := 10) hx hb ht inX1 tyX1 tyX1_ok nmX1 hown hK hP hD hS 0 rfl rfl 8 (by decide) (ht _ wf_X1_playValues) (fun _ h9 => h9) rfl (by decide +kernel) rfl rfl (Nat.le_of_ble_eq_true rfl) dX1_undo_33 (fun H locs hP hD hS => ?_)
    have hP : va_P D clS [(od, .inr (1, [.int (nI n), .int (nI a), .int (nI (2 ^ n - 1 - a)), .ref og, .ref oy, .ref oz, .int (nI q), .int (nI e0), .int (nI (v % 2 ^ e0)), .ref ot])), (og, .inr (0, [.int (nI n), .int (nI a), .ref ob, .ref oe])), (ob, .inl (cI, (2 ^ n), .inl (fun jq => nI ((sd_br Y Z q) jq)))), (oe, .inl (cZ, (2 * 2 ^ n), .inl (fun jq => bI ((sd_ew n a (fun w => sd_br Y Z q w == 0)) jq)))), (oy, .inl (cI, 24, .inl (fun jq => nI (Y jq)))), (oz, .inl (cI, 24, .inl (fun jq => nI (Z jq)))), (ot, .inl (cI, n, .inl T))] H := hP
    have hD : va_D A [(od, .inr (1, [.int (nI n), .int (nI a), .int (nI (2 ^ n - 1 - a)), .ref og, .ref oy, .ref oz, .int (nI q), .int (nI e0), .int (nI (v % 2 ^ e0)), .ref ot])), (og, .inr (0, [.int (nI n), .int (nI a), .ref ob, .ref oe])), (ob, .inl (cI, (2 ^ n), .inl (fun jq => nI ((sd_br Y Z q) jq)))), (oe, .inl (cZ, (2 * 2 ^ n), .inl (fun jq => bI ((sd_ew n a (fun w => sd_br Y Z q w == 0)) jq)))), (oy, .inl (cI, 24, .inl (fun jq => nI (Y jq)))), (oz, .inl (cI, 24, .inl (fun jq => nI (Z jq)))), (ot, .inl (cI, n, .inl T))] := hD
    refine lv_iconst (v := nI 1) hx hb dX1_undo_36 (by decide) ?_
    exact W.zret hx hb hr rfl (fun t ht2 _ => ⟨hw_ret (rfl), by rw [ht2]; exact hP, hS.F ht2⟩) hS.2.2 dX1_undo_37
  · have h1 : e0 + 1 = 0 := hw_ngt0 (by omega) h1
    omega

set_option maxHeartbeats 4000000 in
set_option maxRecDepth 100000 in
theorem c_add_bad (l : Launch) (D : va_G) (cI cZ : ClassId) (od og ob oe oy oz ot n a q d v : Nat) (Y Z : Nat → Nat) (T : Nat → Int32) (ok : dOk n a q d v Y Z) (y0 z0 : Int32) (hno : ¬ (uN y0 < 2 ^ n ∧ uN z0 < 2 ^ n)) : Met l yX1_add (kX1_add :: aW) { frames := 4, cells := 0, slots := 0, locals := 93 } (rPre [.ref od, .int y0, .int z0] D [(od, .inr (1, [.int (nI n), .int (nI a), .int (nI (2 ^ n - 1 - a)), .ref og, .ref oy, .ref oz, .int (nI q), .int (nI d), .int (nI v), .ref ot])), (og, .inr (0, [.int (nI n), .int (nI a), .ref ob, .ref oe])), (ob, .inl (cI, (2 ^ n), .inl (fun jq => nI ((sd_br Y Z q) jq)))), (oe, .inl (cZ, (2 * 2 ^ n), .inl (fun jq => bI ((sd_ew n a (fun w => sd_br Y Z q w == 0)) jq)))), (oy, .inl (cI, 24, .inl (fun jq => nI (Y jq)))), (oz, .inl (cI, 24, .inl (fun jq => nI (Z jq)))), (ot, .inl (cI, n, .inl T))] [(cI, .int), (cZ, .boolean)]) (QcRead (-1)) 0 0 (fun _ => False) := by
  obtain ⟨hn1, hn, ha, h5, hq, hY, hZ, hd, hv⟩ := id ok
  have h2n := hw_p10 hn
  refine Met.ofW (cc := cX1_add) (maxL := 3) (ret := (some .int)) (by decide) rfl ?_
  intro p e s m args below meth c s₁ Bo hml hpre
  obtain ⟨rfl, hP, hK, hN⟩ := hpre
  have hx := Bo.exec
  have hb := Bo.bytes
  have hr := Bo.returns
  have hts := atoms_spec (ws := kX1_add :: aW) Bo.pre
  have ht : ∀ w ∈ aW, w.before _ s = true := fun w h => hts w (List.mem_cons_of_mem _ h)
  have hown : s.vm.findClass RX1 = some m.cls := findClass_of_methodNamed Bo.named
  have hlocks := Bo.notSynchronized
  have hP : va_P D clS [(od, .inr (1, [.int (nI n), .int (nI a), .int (nI (2 ^ n - 1 - a)), .ref og, .ref oy, .ref oz, .int (nI q), .int (nI d), .int (nI v), .ref ot])), (og, .inr (0, [.int (nI n), .int (nI a), .ref ob, .ref oe])), (ob, .inl (cI, (2 ^ n), .inl (fun jq => nI ((sd_br Y Z q) jq)))), (oe, .inl (cZ, (2 * 2 ^ n), .inl (fun jq => bI ((sd_ew n a (fun w => sd_br Y Z q w == 0)) jq)))), (oy, .inl (cI, 24, .inl (fun jq => nI (Y jq)))), (oz, .inl (cI, 24, .inl (fun jq => nI (Z jq)))), (ot, .inl (cI, n, .inl T))] s.heap := hP
  have hl := lv_entry ([.ref od, .int y0, .int z0]) (n := 3) (Nat.le_of_ble_eq_true rfl)
  rw [lg_entry_eq]
  generalize (lg_sl ([.ref od, .int y0, .int z0]) ++ List.replicate (3 - (lg_sl ([.ref od, .int y0, .int z0])).length) Slot.unset).toArray = ls at hl ⊢
  have hl : lv_has ls 3 [(0, .ref od), (1, .int y0), (2, .int z0)] := hl
  refine lv_aload_n hx hb dX1_add_0 rfl (lv_at hl 0 rfl) ?_
  refine lv_iload_n hx hb dX1_add_1 rfl (lv_at hl 1 rfl) ?_
  refine lv_iload_n hx hb dX1_add_2 rfl (lv_at hl 2 rfl) ?_
  refine hw_callR (va_runV (b := od) (As := [.int y0, .int z0]) (rest := []) ⟨hx, hb, hml, hown, ht⟩ (c_areSets l D cI cZ od og ob oe oy oz ot n a q d v Y Z T ok y0 z0) (cwV 2 ht (gV wm_X1_X1_areSets wi_X1_areSets ws_X1_areSets wn_X1 wc_X1_areSets) rfl rfl rfl (by decide +kernel) ⟨Nat.le_of_ble_eq_true rfl, Nat.le_of_ble_eq_true rfl⟩) (rPre_V 0 hP hK hN rfl rfl) rfl rfl hl.1 rfl (lv_room (Nat.le_of_ble_eq_true rfl)) dX1_add_3 ⟨Nat.zero_le _, Nat.zero_le _⟩) ?_
  refine lv_if_ne (tgt := 11) hx hb dX1_add_6 rfl (fun h1 => ?_) (fun h1 => ?_)
  · have h1 : (decide (uN y0 < 2 ^ n) && decide (uN z0 < 2 ^ n)) = true := bI_ne0 h1
    exact absurd (by simpa using h1) hno
  · have h1 : (decide (uN y0 < 2 ^ n) && decide (uN z0 < 2 ^ n)) = false := (bI_eq0 _).mp h1
    refine lv_iconst (v := (-1)) hx hb dX1_add_9 (by decide) ?_
    exact W.iret hx hb hr (fun t ht2 _ => ⟨hw_ret (rfl), ht2⟩) (fun _ h => by cases h) dX1_add_10

set_option maxHeartbeats 4000000 in
set_option maxRecDepth 100000 in
theorem c_add_full (l : Launch) (D : va_G) (cI cZ : ClassId) (od og ob oe oy oz ot n a q d v : Nat) (Y Z : Nat → Nat) (T : Nat → Int32) (ok : dOk n a q d v Y Z) (y z : Nat) (hy : y < 2 ^ n) (hz : z < 2 ^ n) (hfull : q = 24) : Met l yX1_add (kX1_add :: aW) { frames := 4, cells := 0, slots := 0, locals := 93 } (rPre [.ref od, .int (nI y), .int (nI z)] D [(od, .inr (1, [.int (nI n), .int (nI a), .int (nI (2 ^ n - 1 - a)), .ref og, .ref oy, .ref oz, .int (nI q), .int (nI d), .int (nI v), .ref ot])), (og, .inr (0, [.int (nI n), .int (nI a), .ref ob, .ref oe])), (ob, .inl (cI, (2 ^ n), .inl (fun jq => nI ((sd_br Y Z q) jq)))), (oe, .inl (cZ, (2 * 2 ^ n), .inl (fun jq => bI ((sd_ew n a (fun w => sd_br Y Z q w == 0)) jq)))), (oy, .inl (cI, 24, .inl (fun jq => nI (Y jq)))), (oz, .inl (cI, 24, .inl (fun jq => nI (Z jq)))), (ot, .inl (cI, n, .inl T))] [(cI, .int), (cZ, .boolean)]) (QcRead (-2)) 0 0 (fun _ => False) := by
  obtain ⟨hn1, hn, ha, h5, hq, hY, hZ, hd, hv⟩ := id ok
  have h2n := hw_p10 hn
  refine Met.ofW (cc := cX1_add) (maxL := 3) (ret := (some .int)) (by decide) rfl ?_
  intro p e s m args below meth c s₁ Bo hml hpre
  obtain ⟨rfl, hP, hK, hN⟩ := hpre
  have hx := Bo.exec
  have hb := Bo.bytes
  have hr := Bo.returns
  have hts := atoms_spec (ws := kX1_add :: aW) Bo.pre
  have ht : ∀ w ∈ aW, w.before _ s = true := fun w h => hts w (List.mem_cons_of_mem _ h)
  have hown : s.vm.findClass RX1 = some m.cls := findClass_of_methodNamed Bo.named
  have hlocks := Bo.notSynchronized
  have hP : va_P D clS [(od, .inr (1, [.int (nI n), .int (nI a), .int (nI (2 ^ n - 1 - a)), .ref og, .ref oy, .ref oz, .int (nI q), .int (nI d), .int (nI v), .ref ot])), (og, .inr (0, [.int (nI n), .int (nI a), .ref ob, .ref oe])), (ob, .inl (cI, (2 ^ n), .inl (fun jq => nI ((sd_br Y Z q) jq)))), (oe, .inl (cZ, (2 * 2 ^ n), .inl (fun jq => bI ((sd_ew n a (fun w => sd_br Y Z q w == 0)) jq)))), (oy, .inl (cI, 24, .inl (fun jq => nI (Y jq)))), (oz, .inl (cI, 24, .inl (fun jq => nI (Z jq)))), (ot, .inl (cI, n, .inl T))] s.heap := hP
  have hl := lv_entry ([.ref od, .int (nI y), .int (nI z)]) (n := 3) (Nat.le_of_ble_eq_true rfl)
  rw [lg_entry_eq]
  generalize (lg_sl ([.ref od, .int (nI y), .int (nI z)]) ++ List.replicate (3 - (lg_sl ([.ref od, .int (nI y), .int (nI z)])).length) Slot.unset).toArray = ls at hl ⊢
  have hl : lv_has ls 3 [(0, .ref od), (1, .int (nI y)), (2, .int (nI z))] := hl
  refine lv_aload_n hx hb dX1_add_0 rfl (lv_at hl 0 rfl) ?_
  refine lv_iload_n hx hb dX1_add_1 rfl (lv_at hl 1 rfl) ?_
  refine lv_iload_n hx hb dX1_add_2 rfl (lv_at hl 2 rfl) ?_
  refine hw_callR (va_runV (b := od) (As := [.int (nI y), .int (nI z)]) (rest := []) ⟨hx, hb, hml, hown, ht⟩ (c_areSets l D cI cZ od og ob oe oy oz ot n a q d v Y Z T ok (nI y) (nI z)) (cwV 2 ht (gV wm_X1_X1_areSets wi_X1_areSets ws_X1_areSets wn_X1 wc_X1_areSets) rfl rfl rfl (by decide +kernel) ⟨Nat.le_of_ble_eq_true rfl, Nat.le_of_ble_eq_true rfl⟩) (rPre_V 0 hP hK hN rfl rfl) rfl rfl hl.1 rfl (lv_room (Nat.le_of_ble_eq_true rfl)) dX1_add_3 ⟨Nat.zero_le _, Nat.zero_le _⟩) ?_
  refine lv_nm (y := bI true) (congrArg bI (by rw [uN_nI (by omega), uN_nI (by omega), decide_eq_true hy, decide_eq_true hz]; rfl)) ?_
  refine lv_if_ne (tgt := 11) hx hb dX1_add_6 rfl (fun _ => ?_) (fun hc => absurd (show true = false from (bI_eq0 _).mp hc) (by decide))
  refine lv_aload_n hx hb dX1_add_11 rfl (lv_at hl 0 rfl) ?_
  refine va_get (D := D) (ci := 1) (v := .int (nI q)) (C := RX1) (T := TX1) (N := 10) hx hb ht inX1 hown hK hP 0 rfl rfl 6 (by decide) (ht _ wf_X1_clauseCount) (fun _ h9 => h9) rfl dX1_add_12 ?_
  refine lv_bipush (v := nI 24) hx hb dX1_add_15 (by decide) ?_
  refine lv_icmp_lt (tgt := 23) hx hb dX1_add_17 rfl (fun hc => absurd (show q < 24 from (nI_ltI (by omega) (by omega)).mp hc) (by omega)) (fun _ => ?_)
  refine lv_bipush (v := (-2)) hx hb dX1_add_20 (by decide) ?_
  exact W.iret hx hb hr (fun t ht2 _ => ⟨hw_ret (rfl), ht2⟩) (fun _ h => by cases h) dX1_add_22

set_option maxHeartbeats 4000000 in
set_option maxRecDepth 100000 in
theorem c_add (l : Launch) (D : va_G) (cI cZ : ClassId) (od og ob oe oy oz ot n a q d v : Nat) (Y Z : Nat → Nat) (T : Nat → Int32) (ok : dOk n a q d v Y Z) (sz : Nat) (y z : Nat) (hy : y < 2 ^ n) (hz : z < 2 ^ n) (hfull : q < 24) : Met l yX1_add (kX1_add :: aW) { frames := 4, cells := 0, slots := 0, locals := 93 } (wPre [.ref od, .int (nI y), .int (nI z)] D [(od, .inr (1, [.int (nI n), .int (nI a), .int (nI (2 ^ n - 1 - a)), .ref og, .ref oy, .ref oz, .int (nI q), .int (nI d), .int (nI v), .ref ot])), (og, .inr (0, [.int (nI n), .int (nI a), .ref ob, .ref oe])), (ob, .inl (cI, (2 ^ n), .inl (fun jq => nI ((sd_br Y Z q) jq)))), (oe, .inl (cZ, (2 * 2 ^ n), .inl (fun jq => bI ((sd_ew n a (fun w => sd_br Y Z q w == 0)) jq)))), (oy, .inl (cI, 24, .inl (fun jq => nI (Y jq)))), (oz, .inl (cI, 24, .inl (fun jq => nI (Z jq)))), (ot, .inl (cI, n, .inl T))] [(cI, .int), (cZ, .boolean)] sz) (wQ (some (.int (nI q))) D [(od, .inr (1, [.int (nI n), .int (nI a), .int (nI (2 ^ n - 1 - a)), .ref og, .ref oy, .ref oz, .int (nI (q + 1)), .int (nI d), .int (nI v), .ref ot])), (og, .inr (0, [.int (nI n), .int (nI a), .ref ob, .ref oe])), (ob, .inl (cI, (2 ^ n), .inl (fun jq => nI ((sd_br (va_up Y q y) (va_up Z q z) (q + 1)) jq)))), (oe, .inl (cZ, (2 * 2 ^ n), .inl (fun jq => bI ((sd_ew n a (fun w => sd_br (va_up Y q y) (va_up Z q z) (q + 1) w == 0)) jq)))), (oy, .inl (cI, 24, .inl (fun jq => nI ((va_up Y q y) jq)))), (oz, .inl (cI, 24, .inl (fun jq => nI ((va_up Z q z) jq)))), (ot, .inl (cI, n, .inl T))] (va_A [(od, .inr (1, [.int (nI n), .int (nI a), .int (nI (2 ^ n - 1 - a)), .ref og, .ref oy, .ref oz, .int (nI q), .int (nI d), .int (nI v), .ref ot])), (og, .inr (0, [.int (nI n), .int (nI a), .ref ob, .ref oe])), (ob, .inl (cI, (2 ^ n), .inl (fun jq => nI ((sd_br Y Z q) jq)))), (oe, .inl (cZ, (2 * 2 ^ n), .inl (fun jq => bI ((sd_ew n a (fun w => sd_br Y Z q w == 0)) jq)))), (oy, .inl (cI, 24, .inl (fun jq => nI (Y jq)))), (oz, .inl (cI, 24, .inl (fun jq => nI (Z jq)))), (ot, .inl (cI, n, .inl T))] sz)) 0 0 (va_A [(od, .inr (1, [.int (nI n), .int (nI a), .int (nI (2 ^ n - 1 - a)), .ref og, .ref oy, .ref oz, .int (nI q), .int (nI d), .int (nI v), .ref ot])), (og, .inr (0, [.int (nI n), .int (nI a), .ref ob, .ref oe])), (ob, .inl (cI, (2 ^ n), .inl (fun jq => nI ((sd_br Y Z q) jq)))), (oe, .inl (cZ, (2 * 2 ^ n), .inl (fun jq => bI ((sd_ew n a (fun w => sd_br Y Z q w == 0)) jq)))), (oy, .inl (cI, 24, .inl (fun jq => nI (Y jq)))), (oz, .inl (cI, 24, .inl (fun jq => nI (Z jq)))), (ot, .inl (cI, n, .inl T))] sz) := by
  obtain ⟨hn1, hn, ha, h5, hq, hY, hZ, hd, hv⟩ := id ok
  have h2n := hw_p10 hn
  refine Met.ofW (cc := cX1_add) (maxL := 3) (ret := (some .int)) (by decide) rfl ?_
  intro p e s m args below meth c s₁ Bo hml hpre
  obtain ⟨rfl, hsz, hP, hK, hN, hD0⟩ := hpre
  subst hsz
  have hD := hD0.self (sz := s.heap.size)
  generalize hAe : va_A [(od, .inr (1, [.int (nI n), .int (nI a), .int (nI (2 ^ n - 1 - a)), .ref og, .ref oy, .ref oz, .int (nI q), .int (nI d), .int (nI v), .ref ot])), (og, .inr (0, [.int (nI n), .int (nI a), .ref ob, .ref oe])), (ob, .inl (cI, (2 ^ n), .inl (fun jq => nI ((sd_br Y Z q) jq)))), (oe, .inl (cZ, (2 * 2 ^ n), .inl (fun jq => bI ((sd_ew n a (fun w => sd_br Y Z q w == 0)) jq)))), (oy, .inl (cI, 24, .inl (fun jq => nI (Y jq)))), (oz, .inl (cI, 24, .inl (fun jq => nI (Z jq)))), (ot, .inl (cI, n, .inl T))] s.heap.size = A at hD ⊢
  have hA : ∀ q : Nat, s.heap.size ≤ q → A q := fun q h => by rw [← hAe]; exact Or.inr h
  have hS : va_S A s.heap s.heap [] := va_S.rf
  have hx := Bo.exec
  have hb := Bo.bytes
  have hr := Bo.returns
  have hts := atoms_spec (ws := kX1_add :: aW) Bo.pre
  have ht : ∀ w ∈ aW, w.before _ s = true := fun w h => hts w (List.mem_cons_of_mem _ h)
  have hown : s.vm.findClass RX1 = some m.cls := findClass_of_methodNamed Bo.named
  have hlocks := Bo.notSynchronized
  have hP : va_P D clS [(od, .inr (1, [.int (nI n), .int (nI a), .int (nI (2 ^ n - 1 - a)), .ref og, .ref oy, .ref oz, .int (nI q), .int (nI d), .int (nI v), .ref ot])), (og, .inr (0, [.int (nI n), .int (nI a), .ref ob, .ref oe])), (ob, .inl (cI, (2 ^ n), .inl (fun jq => nI ((sd_br Y Z q) jq)))), (oe, .inl (cZ, (2 * 2 ^ n), .inl (fun jq => bI ((sd_ew n a (fun w => sd_br Y Z q w == 0)) jq)))), (oy, .inl (cI, 24, .inl (fun jq => nI (Y jq)))), (oz, .inl (cI, 24, .inl (fun jq => nI (Z jq)))), (ot, .inl (cI, n, .inl T))] s.heap := hP
  have hl := lv_entry ([.ref od, .int (nI y), .int (nI z)]) (n := 3) (Nat.le_of_ble_eq_true rfl)
  rw [lg_entry_eq]
  generalize (lg_sl ([.ref od, .int (nI y), .int (nI z)]) ++ List.replicate (3 - (lg_sl ([.ref od, .int (nI y), .int (nI z)])).length) Slot.unset).toArray = ls at hl ⊢
  have hl : lv_has ls 3 [(0, .ref od), (1, .int (nI y)), (2, .int (nI z))] := hl
  refine lv_aload_n hx hb dX1_add_0 rfl (lv_at hl 0 rfl) ?_
  refine lv_iload_n hx hb dX1_add_1 rfl (lv_at hl 1 rfl) ?_
  refine lv_iload_n hx hb dX1_add_2 rfl (lv_at hl 2 rfl) ?_
  refine hw_callR (va_runV (b := od) (As := [.int (nI y), .int (nI z)]) (rest := []) ⟨hx, hb, hml, hown, ht⟩ (c_areSets l D cI cZ od og ob oe oy oz ot n a q d v Y Z T ok (nI y) (nI z)) (cwV 2 ht (gV wm_X1_X1_areSets wi_X1_areSets ws_X1_areSets wn_X1 wc_X1_areSets) rfl rfl rfl (by decide +kernel) ⟨Nat.le_of_ble_eq_true rfl, Nat.le_of_ble_eq_true rfl⟩) (rPre_V 0 hP hK hN rfl rfl) rfl rfl hl.1 rfl (lv_room (Nat.le_of_ble_eq_true rfl)) dX1_add_3 ⟨Nat.zero_le _, Nat.zero_le _⟩) ?_
  refine lv_nm (y := bI true) (congrArg bI (by rw [uN_nI (by omega), uN_nI (by omega), decide_eq_true hy, decide_eq_true hz]; rfl)) ?_
  refine lv_if_ne (tgt := 11) hx hb dX1_add_6 rfl (fun _ => ?_) (fun hc => absurd (show true = false from (bI_eq0 _).mp hc) (by decide))
  refine lv_aload_n hx hb dX1_add_11 rfl (lv_at hl 0 rfl) ?_
  refine va_get (D := D) (ci := 1) (v := .int (nI q)) (C := RX1) (T := TX1) (N := 10) hx hb ht inX1 hown hK hP 0 rfl rfl 6 (by decide) (ht _ wf_X1_clauseCount) (fun _ h9 => h9) rfl dX1_add_12 ?_
  refine lv_bipush (v := nI 24) hx hb dX1_add_15 (by decide) ?_
  refine lv_icmp_lt (tgt := 23) hx hb dX1_add_17 rfl (fun _ => ?_) (fun hc => absurd (show ¬ (q < 24) from fun h9 => hc ((nI_ltI (by omega) (by omega)).mpr h9)) (by omega))
  refine lv_aload_n hx hb dX1_add_23 rfl (lv_at hl 0 rfl) ?_
  refine va_get (D := D) (ci := 1) (v := .ref oy) (C := RX1) (T := TX1) (N := 10) hx hb ht inX1 hown hK hP 0 rfl rfl 4 (by decide) (ht _ wf_X1_yesSets) (fun _ h9 => h9) rfl dX1_add_24 ?_
  refine lv_aload_n hx hb dX1_add_27 rfl (lv_at hl 0 rfl) ?_
  refine va_get (D := D) (ci := 1) (v := .int (nI q)) (C := RX1) (T := TX1) (N := 10) hx hb ht inX1 hown hK hP 0 rfl rfl 6 (by decide) (ht _ wf_X1_clauseCount) (fun _ h9 => h9) rfl dX1_add_28 ?_
  refine lv_iload_n hx hb dX1_add_31 rfl (lv_at hl 1 rfl) ?_
  refine na_nast (f := Y) (x := y) hx hb hK hP hD hS 4 0 rfl rfl (j := q) (by omega) (by omega) dX1_add_32 (fun H locs hP hD hS => ?_)
  have hP : va_P D clS [(od, .inr (1, [.int (nI n), .int (nI a), .int (nI (2 ^ n - 1 - a)), .ref og, .ref oy, .ref oz, .int (nI q), .int (nI d), .int (nI v), .ref ot])), (og, .inr (0, [.int (nI n), .int (nI a), .ref ob, .ref oe])), (ob, .inl (cI, (2 ^ n), .inl (fun jq => nI ((sd_br Y Z q) jq)))), (oe, .inl (cZ, (2 * 2 ^ n), .inl (fun jq => bI ((sd_ew n a (fun w => sd_br Y Z q w == 0)) jq)))), (oy, .inl (cI, 24, .inl (fun jq => nI ((va_up Y q y) jq)))), (oz, .inl (cI, 24, .inl (fun jq => nI (Z jq)))), (ot, .inl (cI, n, .inl T))] H := hP
  have hD : va_D A [(od, .inr (1, [.int (nI n), .int (nI a), .int (nI (2 ^ n - 1 - a)), .ref og, .ref oy, .ref oz, .int (nI q), .int (nI d), .int (nI v), .ref ot])), (og, .inr (0, [.int (nI n), .int (nI a), .ref ob, .ref oe])), (ob, .inl (cI, (2 ^ n), .inl (fun jq => nI ((sd_br Y Z q) jq)))), (oe, .inl (cZ, (2 * 2 ^ n), .inl (fun jq => bI ((sd_ew n a (fun w => sd_br Y Z q w == 0)) jq)))), (oy, .inl (cI, 24, .inl (fun jq => nI ((va_up Y q y) jq)))), (oz, .inl (cI, 24, .inl (fun jq => nI (Z jq)))), (ot, .inl (cI, n, .inl T))] := hD
  refine lv_aload_n hx hb dX1_add_33 rfl (lv_at hl 0 rfl) ?_
  refine va_get (D := D) (ci := 1) (v := .ref oz) (C := RX1) (T := TX1) (N := 10) hx hb ht inX1 hown hK hP 0 rfl rfl 5 (by decide) (ht _ wf_X1_noSets) (fun _ h9 => h9) rfl dX1_add_34 ?_
  refine lv_aload_n hx hb dX1_add_37 rfl (lv_at hl 0 rfl) ?_
  refine va_get (D := D) (ci := 1) (v := .int (nI q)) (C := RX1) (T := TX1) (N := 10) hx hb ht inX1 hown hK hP 0 rfl rfl 6 (by decide) (ht _ wf_X1_clauseCount) (fun _ h9 => h9) rfl dX1_add_38 ?_
  refine lv_iload_n hx hb dX1_add_41 rfl (lv_at hl 2 rfl) ?_
  refine na_nast (f := Z) (x := z) hx hb hK hP hD hS 5 0 rfl rfl (j := q) (by omega) (by omega) dX1_add_42 (fun H locs hP hD hS => ?_)
  have hP : va_P D clS [(od, .inr (1, [.int (nI n), .int (nI a), .int (nI (2 ^ n - 1 - a)), .ref og, .ref oy, .ref oz, .int (nI q), .int (nI d), .int (nI v), .ref ot])), (og, .inr (0, [.int (nI n), .int (nI a), .ref ob, .ref oe])), (ob, .inl (cI, (2 ^ n), .inl (fun jq => nI ((sd_br Y Z q) jq)))), (oe, .inl (cZ, (2 * 2 ^ n), .inl (fun jq => bI ((sd_ew n a (fun w => sd_br Y Z q w == 0)) jq)))), (oy, .inl (cI, 24, .inl (fun jq => nI ((va_up Y q y) jq)))), (oz, .inl (cI, 24, .inl (fun jq => nI ((va_up Z q z) jq)))), (ot, .inl (cI, n, .inl T))] H := hP
  have hD : va_D A [(od, .inr (1, [.int (nI n), .int (nI a), .int (nI (2 ^ n - 1 - a)), .ref og, .ref oy, .ref oz, .int (nI q), .int (nI d), .int (nI v), .ref ot])), (og, .inr (0, [.int (nI n), .int (nI a), .ref ob, .ref oe])), (ob, .inl (cI, (2 ^ n), .inl (fun jq => nI ((sd_br Y Z q) jq)))), (oe, .inl (cZ, (2 * 2 ^ n), .inl (fun jq => bI ((sd_ew n a (fun w => sd_br Y Z q w == 0)) jq)))), (oy, .inl (cI, 24, .inl (fun jq => nI ((va_up Y q y) jq)))), (oz, .inl (cI, 24, .inl (fun jq => nI ((va_up Z q z) jq)))), (ot, .inl (cI, n, .inl T))] := hD
  refine lv_aload_n hx hb dX1_add_43 rfl (lv_at hl 0 rfl) ?_
  refine lv_dup hx hb dX1_add_44 rfl ?_
  refine va_get (D := D) (ci := 1) (v := .int (nI q)) (C := RX1) (T := TX1) (N := 10) hx hb ht inX1 hown hK hP 0 rfl rfl 6 (by decide) (ht _ wf_X1_clauseCount) (fun _ h9 => h9) rfl dX1_add_45 ?_
  refine lv_iconst (v := nI 1) hx hb dX1_add_48 (by decide) ?_
  refine lv_iadd hx hb dX1_add_49 ?_
  refine lv_nm (y := nI (q + 1)) (nI_add _ _) ?_
  refine va_put (D := D) (ci := 1) (v := .int (nI (q + 1))) (ty := .int) (C := RX1) (T := TX1) (N := 10) hx hb ht inX1 tyX1 tyX1_ok nmX1 hown hK hP hD hS 0 rfl rfl 6 (by decide) (ht _ wf_X1_clauseCount) (fun _ h9 => h9) rfl (by decide +kernel) rfl rfl (Nat.le_of_ble_eq_true rfl) dX1_add_50 (fun H locs hP hD hS => ?_)
  have hP : va_P D clS [(od, .inr (1, [.int (nI n), .int (nI a), .int (nI (2 ^ n - 1 - a)), .ref og, .ref oy, .ref oz, .int (nI (q + 1)), .int (nI d), .int (nI v), .ref ot])), (og, .inr (0, [.int (nI n), .int (nI a), .ref ob, .ref oe])), (ob, .inl (cI, (2 ^ n), .inl (fun jq => nI ((sd_br Y Z q) jq)))), (oe, .inl (cZ, (2 * 2 ^ n), .inl (fun jq => bI ((sd_ew n a (fun w => sd_br Y Z q w == 0)) jq)))), (oy, .inl (cI, 24, .inl (fun jq => nI ((va_up Y q y) jq)))), (oz, .inl (cI, 24, .inl (fun jq => nI ((va_up Z q z) jq)))), (ot, .inl (cI, n, .inl T))] H := hP
  have hD : va_D A [(od, .inr (1, [.int (nI n), .int (nI a), .int (nI (2 ^ n - 1 - a)), .ref og, .ref oy, .ref oz, .int (nI (q + 1)), .int (nI d), .int (nI v), .ref ot])), (og, .inr (0, [.int (nI n), .int (nI a), .ref ob, .ref oe])), (ob, .inl (cI, (2 ^ n), .inl (fun jq => nI ((sd_br Y Z q) jq)))), (oe, .inl (cZ, (2 * 2 ^ n), .inl (fun jq => bI ((sd_ew n a (fun w => sd_br Y Z q w == 0)) jq)))), (oy, .inl (cI, 24, .inl (fun jq => nI ((va_up Y q y) jq)))), (oz, .inl (cI, 24, .inl (fun jq => nI ((va_up Z q z) jq)))), (ot, .inl (cI, n, .inl T))] := hD
  refine lv_aload_n hx hb dX1_add_53 rfl (lv_at hl 0 rfl) ?_
  refine va_get (D := D) (ci := 1) (v := .ref og) (C := RX1) (T := TX1) (N := 10) hx hb ht inX1 hown hK hP 0 rfl rfl 3 (by decide) (ht _ wf_X1_game) (fun _ h9 => h9) rfl dX1_add_54 ?_
  refine lv_iload_n hx hb dX1_add_57 rfl (lv_at hl 1 rfl) ?_
  refine lv_iload_n hx hb dX1_add_58 rfl (lv_at hl 2 rfl) ?_
  refine lv_iconst (v := nI 1) hx hb dX1_add_59 (by decide) ?_
  refine hw_call (wc := [(og, .inr (0, [.int (nI n), .int (nI a), .ref ob, .ref oe])), (ob, .inl (cI, (2 ^ n), .inl (fun jq => nI ((sd_br Y Z q) jq)))), (oe, .inl (cZ, (2 * 2 ^ n), .inl (fun jq => bI ((sd_ew n a (fun w => sd_br Y Z q w == 0)) jq))))]) (wc' := [(og, .inr (0, [.int (nI n), .int (nI a), .ref ob, .ref oe])), (ob, .inl (cI, (2 ^ n), .inl (fun jq => nI ((sd_br (va_up Y q y) (va_up Z q z) (q + 1)) jq)))), (oe, .inl (cZ, (2 * 2 ^ n), .inl (fun jq => bI ((sd_ew n a (fun w => sd_br (va_up Y q y) (va_up Z q z) (q + 1) w == 0)) jq))))]) (wr := [(od, .inr (1, [.int (nI n), .int (nI a), .int (nI (2 ^ n - 1 - a)), .ref og, .ref oy, .ref oz, .int (nI (q + 1)), .int (nI d), .int (nI v), .ref ot])), (oy, .inl (cI, 24, .inl (fun jq => nI ((va_up Y q y) jq)))), (oz, .inl (cI, 24, .inl (fun jq => nI ((va_up Z q z) jq)))), (ot, .inl (cI, n, .inl T))]) (ws' := [(od, .inr (1, [.int (nI n), .int (nI a), .int (nI (2 ^ n - 1 - a)), .ref og, .ref oy, .ref oz, .int (nI (q + 1)), .int (nI d), .int (nI v), .ref ot])), (og, .inr (0, [.int (nI n), .int (nI a), .ref ob, .ref oe])), (ob, .inl (cI, (2 ^ n), .inl (fun jq => nI ((sd_br (va_up Y q y) (va_up Z q z) (q + 1)) jq)))), (oe, .inl (cZ, (2 * 2 ^ n), .inl (fun jq => bI ((sd_ew n a (fun w => sd_br (va_up Y q y) (va_up Z q z) (q + 1) w == 0)) jq)))), (oy, .inl (cI, 24, .inl (fun jq => nI ((va_up Y q y) jq)))), (oz, .inl (cI, 24, .inl (fun jq => nI ((va_up Z q z) jq)))), (ot, .inl (cI, n, .inl T))]) (va_runV (b := og) (As := [.int (nI y), .int (nI z), .int (nI 1)]) (rest := []) ⟨hx, hb, hml, hown, ht⟩ (c_change l D cI cZ og ob oe n a y z H.size (nI 1) (sd_br Y Z q) (sd_br (va_up Y q y) (va_up Z q z) (q + 1)) (sd_ew n a (fun w => sd_br Y Z q w == 0)) hn1 hn ha hy hz (fun u _ => sd_brl Y Z (by omega) u) (fun u _ => sd_brl _ _ (by omega) u) (fun u _ => by rw [sd_br_up]; exact sd_in rfl) rfl) (cwV 3 ht (gV wm_X1_X0_change wi_X0_change ws_X0_change wn_X0 wc_X0_change) rfl rfl rfl (by decide +kernel) ⟨Nat.le_of_ble_eq_true rfl, Nat.le_of_ble_eq_true rfl⟩) (wPre_V 0 (hP.sub [1, 2, 3] rfl) (hD.sub [1, 2, 3] (by decide) rfl) hK hN rfl rfl) rfl rfl hl.1 rfl (lv_room (Nat.le_of_ble_eq_true rfl)) dX1_add_60 ⟨Nat.zero_le _, Nat.zero_le _⟩) hP hD hS hA [1, 2, 3] [0, 4, 5, 6] [0, 4, 5, 6, 1, 2, 3] rfl rfl (by decide) (by decide) (by decide) rfl rfl rfl (fun H locs hP hD hS => ?_)
  have hP : va_P D clS [(od, .inr (1, [.int (nI n), .int (nI a), .int (nI (2 ^ n - 1 - a)), .ref og, .ref oy, .ref oz, .int (nI (q + 1)), .int (nI d), .int (nI v), .ref ot])), (og, .inr (0, [.int (nI n), .int (nI a), .ref ob, .ref oe])), (ob, .inl (cI, (2 ^ n), .inl (fun jq => nI ((sd_br (va_up Y q y) (va_up Z q z) (q + 1)) jq)))), (oe, .inl (cZ, (2 * 2 ^ n), .inl (fun jq => bI ((sd_ew n a (fun w => sd_br (va_up Y q y) (va_up Z q z) (q + 1) w == 0)) jq)))), (oy, .inl (cI, 24, .inl (fun jq => nI ((va_up Y q y) jq)))), (oz, .inl (cI, 24, .inl (fun jq => nI ((va_up Z q z) jq)))), (ot, .inl (cI, n, .inl T))] H := hP
  have hD : va_D A [(od, .inr (1, [.int (nI n), .int (nI a), .int (nI (2 ^ n - 1 - a)), .ref og, .ref oy, .ref oz, .int (nI (q + 1)), .int (nI d), .int (nI v), .ref ot])), (og, .inr (0, [.int (nI n), .int (nI a), .ref ob, .ref oe])), (ob, .inl (cI, (2 ^ n), .inl (fun jq => nI ((sd_br (va_up Y q y) (va_up Z q z) (q + 1)) jq)))), (oe, .inl (cZ, (2 * 2 ^ n), .inl (fun jq => bI ((sd_ew n a (fun w => sd_br (va_up Y q y) (va_up Z q z) (q + 1) w == 0)) jq)))), (oy, .inl (cI, 24, .inl (fun jq => nI ((va_up Y q y) jq)))), (oz, .inl (cI, 24, .inl (fun jq => nI ((va_up Z q z) jq)))), (ot, .inl (cI, n, .inl T))] := hD
  refine W.eq (g2 := F0 m 63 ls []) rfl ?_
  refine lv_aload_n hx hb dX1_add_63 rfl (lv_at hl 0 rfl) ?_
  refine va_get (D := D) (ci := 1) (v := .int (nI (q + 1))) (C := RX1) (T := TX1) (N := 10) hx hb ht inX1 hown hK hP 0 rfl rfl 6 (by decide) (ht _ wf_X1_clauseCount) (fun _ h9 => h9) rfl dX1_add_64 ?_
  refine lv_iconst (v := nI 1) hx hb dX1_add_67 (by decide) ?_
  refine lv_isub hx hb dX1_add_68 ?_
  refine lv_nm (y := nI q) (nI_pred _) ?_
  exact W.iret hx hb hr (fun t ht2 _ => ⟨hw_ret (rfl), by rw [ht2]; exact hP, hS.F ht2⟩) hS.2.2 dX1_add_69

set_option maxHeartbeats 4000000 in
set_option maxRecDepth 100000 in
theorem c_drop_no (l : Launch) (D : va_G) (cI cZ : ClassId) (od og ob oe oy oz ot n a q d v : Nat) (Y Z : Nat → Nat) (T : Nat → Int32) (ok : dOk n a q d v Y Z) (x : Int32) (hno : ¬ uN x < q) : Met l yX1_drop (kX1_drop :: aW) { frames := 4, cells := 0, slots := 0, locals := 93 } (rPre [.ref od, .int x] D [(od, .inr (1, [.int (nI n), .int (nI a), .int (nI (2 ^ n - 1 - a)), .ref og, .ref oy, .ref oz, .int (nI q), .int (nI d), .int (nI v), .ref ot])), (og, .inr (0, [.int (nI n), .int (nI a), .ref ob, .ref oe])), (ob, .inl (cI, (2 ^ n), .inl (fun jq => nI ((sd_br Y Z q) jq)))), (oe, .inl (cZ, (2 * 2 ^ n), .inl (fun jq => bI ((sd_ew n a (fun w => sd_br Y Z q w == 0)) jq)))), (oy, .inl (cI, 24, .inl (fun jq => nI (Y jq)))), (oz, .inl (cI, 24, .inl (fun jq => nI (Z jq)))), (ot, .inl (cI, n, .inl T))] [(cI, .int), (cZ, .boolean)]) (QcRead (bI false)) 0 0 (fun _ => False) := by
  obtain ⟨hn1, hn, ha, h5, hq, hY, hZ, hd, hv⟩ := id ok
  have h2n := hw_p10 hn
  refine Met.ofW (cc := cX1_drop) (maxL := 3) (ret := (some .boolean)) (by decide) rfl ?_
  intro p e s m args below meth c s₁ Bo hml hpre
  obtain ⟨rfl, hP, hK, hN⟩ := hpre
  have hx := Bo.exec
  have hb := Bo.bytes
  have hr := Bo.returns
  have hts := atoms_spec (ws := kX1_drop :: aW) Bo.pre
  have ht : ∀ w ∈ aW, w.before _ s = true := fun w h => hts w (List.mem_cons_of_mem _ h)
  have hown : s.vm.findClass RX1 = some m.cls := findClass_of_methodNamed Bo.named
  have hlocks := Bo.notSynchronized
  have hP : va_P D clS [(od, .inr (1, [.int (nI n), .int (nI a), .int (nI (2 ^ n - 1 - a)), .ref og, .ref oy, .ref oz, .int (nI q), .int (nI d), .int (nI v), .ref ot])), (og, .inr (0, [.int (nI n), .int (nI a), .ref ob, .ref oe])), (ob, .inl (cI, (2 ^ n), .inl (fun jq => nI ((sd_br Y Z q) jq)))), (oe, .inl (cZ, (2 * 2 ^ n), .inl (fun jq => bI ((sd_ew n a (fun w => sd_br Y Z q w == 0)) jq)))), (oy, .inl (cI, 24, .inl (fun jq => nI (Y jq)))), (oz, .inl (cI, 24, .inl (fun jq => nI (Z jq)))), (ot, .inl (cI, n, .inl T))] s.heap := hP
  have hl := lv_entry ([.ref od, .int x]) (n := 3) (Nat.le_of_ble_eq_true rfl)
  rw [lg_entry_eq]
  generalize (lg_sl ([.ref od, .int x]) ++ List.replicate (3 - (lg_sl ([.ref od, .int x])).length) Slot.unset).toArray = ls at hl ⊢
  have hl : lv_has ls 3 [(0, .ref od), (1, .int x)] := hl
  refine lv_aload_n hx hb dX1_drop_0 rfl (lv_at hl 0 rfl) ?_
  refine lv_iload_n hx hb dX1_drop_1 rfl (lv_at hl 1 rfl) ?_
  refine hw_callR (va_runV (b := od) (As := [.int x]) (rest := []) ⟨hx, hb, hml, hown, ht⟩ (c_isClause l D cI cZ od og ob oe oy oz ot n a q d v Y Z T ok x) (cwV 1 ht (gV wm_X1_X1_isClause wi_X1_isClause ws_X1_isClause wn_X1 wc_X1_isClause) rfl rfl rfl (by decide +kernel) ⟨Nat.le_of_ble_eq_true rfl, Nat.le_of_ble_eq_true rfl⟩) (rPre_V 0 hP hK hN rfl rfl) rfl rfl hl.1 rfl (lv_room (Nat.le_of_ble_eq_true rfl)) dX1_drop_2 ⟨Nat.zero_le _, Nat.zero_le _⟩) ?_
  refine lv_if_ne (tgt := 10) hx hb dX1_drop_5 rfl (fun h1 => ?_) (fun h1 => ?_)
  · have h1 : (decide (uN x < q)) = true := bI_ne0 h1
    exact absurd (of_decide_eq_true h1) hno
  · have h1 : (decide (uN x < q)) = false := (bI_eq0 _).mp h1
    refine lv_iconst (v := nI 0) hx hb dX1_drop_8 (by decide) ?_
    exact W.zret hx hb hr rfl (fun t ht2 _ => ⟨hw_ret (rfl), ht2⟩) (fun _ h => by cases h) dX1_drop_9

set_option maxHeartbeats 4000000 in
set_option maxRecDepth 100000 in
theorem c_idle_no (l : Launch) (D : va_G) (cI cZ : ClassId) (od og ob oe oy oz ot n a q d v : Nat) (Y Z : Nat → Nat) (T : Nat → Int32) (ok : dOk n a q d v Y Z) (x : Int32) (hno : ¬ uN x < q) : Met l yX1_idle (kX1_idle :: aW) { frames := 5, cells := 0, slots := 0, locals := 118 } (rPre [.ref od, .int x] D [(od, .inr (1, [.int (nI n), .int (nI a), .int (nI (2 ^ n - 1 - a)), .ref og, .ref oy, .ref oz, .int (nI q), .int (nI d), .int (nI v), .ref ot])), (og, .inr (0, [.int (nI n), .int (nI a), .ref ob, .ref oe])), (ob, .inl (cI, (2 ^ n), .inl (fun jq => nI ((sd_br Y Z q) jq)))), (oe, .inl (cZ, (2 * 2 ^ n), .inl (fun jq => bI ((sd_ew n a (fun w => sd_br Y Z q w == 0)) jq)))), (oy, .inl (cI, 24, .inl (fun jq => nI (Y jq)))), (oz, .inl (cI, 24, .inl (fun jq => nI (Z jq)))), (ot, .inl (cI, n, .inl T))] [(cI, .int), (cZ, .boolean)]) (QcRead (bI false)) 0 0 (fun _ => False) := by
  obtain ⟨hn1, hn, ha, h5, hq, hY, hZ, hd, hv⟩ := id ok
  have h2n := hw_p10 hn
  refine Met.ofW (cc := cX1_idle) (maxL := 2) (ret := (some .boolean)) (by decide) rfl ?_
  intro p e s m args below meth c s₁ Bo hml hpre
  obtain ⟨rfl, hP, hK, hN⟩ := hpre
  have hx := Bo.exec
  have hb := Bo.bytes
  have hr := Bo.returns
  have hts := atoms_spec (ws := kX1_idle :: aW) Bo.pre
  have ht : ∀ w ∈ aW, w.before _ s = true := fun w h => hts w (List.mem_cons_of_mem _ h)
  have hown : s.vm.findClass RX1 = some m.cls := findClass_of_methodNamed Bo.named
  have hlocks := Bo.notSynchronized
  have hP : va_P D clS [(od, .inr (1, [.int (nI n), .int (nI a), .int (nI (2 ^ n - 1 - a)), .ref og, .ref oy, .ref oz, .int (nI q), .int (nI d), .int (nI v), .ref ot])), (og, .inr (0, [.int (nI n), .int (nI a), .ref ob, .ref oe])), (ob, .inl (cI, (2 ^ n), .inl (fun jq => nI ((sd_br Y Z q) jq)))), (oe, .inl (cZ, (2 * 2 ^ n), .inl (fun jq => bI ((sd_ew n a (fun w => sd_br Y Z q w == 0)) jq)))), (oy, .inl (cI, 24, .inl (fun jq => nI (Y jq)))), (oz, .inl (cI, 24, .inl (fun jq => nI (Z jq)))), (ot, .inl (cI, n, .inl T))] s.heap := hP
  have hl := lv_entry ([.ref od, .int x]) (n := 2) (Nat.le_of_ble_eq_true rfl)
  rw [lg_entry_eq]
  generalize (lg_sl ([.ref od, .int x]) ++ List.replicate (2 - (lg_sl ([.ref od, .int x])).length) Slot.unset).toArray = ls at hl ⊢
  have hl : lv_has ls 2 [(0, .ref od), (1, .int x)] := hl
  refine lv_aload_n hx hb dX1_idle_0 rfl (lv_at hl 0 rfl) ?_
  refine lv_iload_n hx hb dX1_idle_1 rfl (lv_at hl 1 rfl) ?_
  refine hw_callR (va_runV (b := od) (As := [.int x]) (rest := []) ⟨hx, hb, hml, hown, ht⟩ (c_isClause l D cI cZ od og ob oe oy oz ot n a q d v Y Z T ok x) (cwV 1 ht (gV wm_X1_X1_isClause wi_X1_isClause ws_X1_isClause wn_X1 wc_X1_isClause) rfl rfl rfl (by decide +kernel) ⟨Nat.le_of_ble_eq_true rfl, Nat.le_of_ble_eq_true rfl⟩) (rPre_V 0 hP hK hN rfl rfl) rfl rfl hl.1 rfl (lv_room (Nat.le_of_ble_eq_true rfl)) dX1_idle_2 ⟨Nat.zero_le _, Nat.zero_le _⟩) ?_
  refine lv_if_eq (tgt := 32) hx hb dX1_idle_5 rfl (fun h1 => ?_) (fun h1 => ?_)
  · have h1 : (decide (uN x < q)) = false := (bI_eq0 _).mp h1
    refine lv_iconst (v := nI 0) hx hb dX1_idle_32 (by decide) ?_
    exact W.zret hx hb hr rfl (fun t ht2 _ => ⟨hw_ret (rfl), ht2⟩) (fun _ h => by cases h) dX1_idle_33
  · have h1 : (decide (uN x < q)) = true := bI_ne0 h1
    exact absurd (of_decide_eq_true h1) hno

set_option maxHeartbeats 4000000 in
set_option maxRecDepth 100000 in
theorem c_drop (l : Launch) (D : va_G) (cI cZ : ClassId) (od og ob oe oy oz ot n a r d v : Nat) (Y Z : Nat → Nat) (T : Nat → Int32) (ok : dOk n a (r + 1) d v Y Z) (sz : Nat) (i : Nat) (hi : i < r + 1) : Met l yX1_drop (kX1_drop :: aW) { frames := 4, cells := 0, slots := 0, locals := 93 } (wPre [.ref od, .int (nI i)] D [(od, .inr (1, [.int (nI n), .int (nI a), .int (nI (2 ^ n - 1 - a)), .ref og, .ref oy, .ref oz, .int (nI (r + 1)), .int (nI d), .int (nI v), .ref ot])), (og, .inr (0, [.int (nI n), .int (nI a), .ref ob, .ref oe])), (ob, .inl (cI, (2 ^ n), .inl (fun jq => nI ((sd_br Y Z (r + 1)) jq)))), (oe, .inl (cZ, (2 * 2 ^ n), .inl (fun jq => bI ((sd_ew n a (fun w => sd_br Y Z (r + 1) w == 0)) jq)))), (oy, .inl (cI, 24, .inl (fun jq => nI (Y jq)))), (oz, .inl (cI, 24, .inl (fun jq => nI (Z jq)))), (ot, .inl (cI, n, .inl T))] [(cI, .int), (cZ, .boolean)] sz) (wQ (some (.int (bI true))) D [(od, .inr (1, [.int (nI n), .int (nI a), .int (nI (2 ^ n - 1 - a)), .ref og, .ref oy, .ref oz, .int (nI r), .int (nI d), .int (nI v), .ref ot])), (og, .inr (0, [.int (nI n), .int (nI a), .ref ob, .ref oe])), (ob, .inl (cI, (2 ^ n), .inl (fun jq => nI ((sd_br (sd_sh Y i r) (sd_sh Z i r) r) jq)))), (oe, .inl (cZ, (2 * 2 ^ n), .inl (fun jq => bI ((sd_ew n a (fun w => sd_br (sd_sh Y i r) (sd_sh Z i r) r w == 0)) jq)))), (oy, .inl (cI, 24, .inl (fun jq => nI ((sd_sh Y i r) jq)))), (oz, .inl (cI, 24, .inl (fun jq => nI ((sd_sh Z i r) jq)))), (ot, .inl (cI, n, .inl T))] (va_A [(od, .inr (1, [.int (nI n), .int (nI a), .int (nI (2 ^ n - 1 - a)), .ref og, .ref oy, .ref oz, .int (nI (r + 1)), .int (nI d), .int (nI v), .ref ot])), (og, .inr (0, [.int (nI n), .int (nI a), .ref ob, .ref oe])), (ob, .inl (cI, (2 ^ n), .inl (fun jq => nI ((sd_br Y Z (r + 1)) jq)))), (oe, .inl (cZ, (2 * 2 ^ n), .inl (fun jq => bI ((sd_ew n a (fun w => sd_br Y Z (r + 1) w == 0)) jq)))), (oy, .inl (cI, 24, .inl (fun jq => nI (Y jq)))), (oz, .inl (cI, 24, .inl (fun jq => nI (Z jq)))), (ot, .inl (cI, n, .inl T))] sz)) 0 0 (va_A [(od, .inr (1, [.int (nI n), .int (nI a), .int (nI (2 ^ n - 1 - a)), .ref og, .ref oy, .ref oz, .int (nI (r + 1)), .int (nI d), .int (nI v), .ref ot])), (og, .inr (0, [.int (nI n), .int (nI a), .ref ob, .ref oe])), (ob, .inl (cI, (2 ^ n), .inl (fun jq => nI ((sd_br Y Z (r + 1)) jq)))), (oe, .inl (cZ, (2 * 2 ^ n), .inl (fun jq => bI ((sd_ew n a (fun w => sd_br Y Z (r + 1) w == 0)) jq)))), (oy, .inl (cI, 24, .inl (fun jq => nI (Y jq)))), (oz, .inl (cI, 24, .inl (fun jq => nI (Z jq)))), (ot, .inl (cI, n, .inl T))] sz) := by
  obtain ⟨hn1, hn, ha, h5, hq, hY, hZ, hd, hv⟩ := id ok
  have h2n := hw_p10 hn
  refine Met.ofW (cc := cX1_drop) (maxL := 3) (ret := (some .boolean)) (by decide) rfl ?_
  intro p e s m args below meth c s₁ Bo hml hpre
  obtain ⟨rfl, hsz, hP, hK, hN, hD0⟩ := hpre
  subst hsz
  have hD := hD0.self (sz := s.heap.size)
  generalize hAe : va_A [(od, .inr (1, [.int (nI n), .int (nI a), .int (nI (2 ^ n - 1 - a)), .ref og, .ref oy, .ref oz, .int (nI (r + 1)), .int (nI d), .int (nI v), .ref ot])), (og, .inr (0, [.int (nI n), .int (nI a), .ref ob, .ref oe])), (ob, .inl (cI, (2 ^ n), .inl (fun jq => nI ((sd_br Y Z (r + 1)) jq)))), (oe, .inl (cZ, (2 * 2 ^ n), .inl (fun jq => bI ((sd_ew n a (fun w => sd_br Y Z (r + 1) w == 0)) jq)))), (oy, .inl (cI, 24, .inl (fun jq => nI (Y jq)))), (oz, .inl (cI, 24, .inl (fun jq => nI (Z jq)))), (ot, .inl (cI, n, .inl T))] s.heap.size = A at hD ⊢
  have hA : ∀ q : Nat, s.heap.size ≤ q → A q := fun q h => by rw [← hAe]; exact Or.inr h
  have hS : va_S A s.heap s.heap [] := va_S.rf
  have hx := Bo.exec
  have hb := Bo.bytes
  have hr := Bo.returns
  have hts := atoms_spec (ws := kX1_drop :: aW) Bo.pre
  have ht : ∀ w ∈ aW, w.before _ s = true := fun w h => hts w (List.mem_cons_of_mem _ h)
  have hown : s.vm.findClass RX1 = some m.cls := findClass_of_methodNamed Bo.named
  have hlocks := Bo.notSynchronized
  have hP : va_P D clS [(od, .inr (1, [.int (nI n), .int (nI a), .int (nI (2 ^ n - 1 - a)), .ref og, .ref oy, .ref oz, .int (nI (r + 1)), .int (nI d), .int (nI v), .ref ot])), (og, .inr (0, [.int (nI n), .int (nI a), .ref ob, .ref oe])), (ob, .inl (cI, (2 ^ n), .inl (fun jq => nI ((sd_br Y Z (r + 1)) jq)))), (oe, .inl (cZ, (2 * 2 ^ n), .inl (fun jq => bI ((sd_ew n a (fun w => sd_br Y Z (r + 1) w == 0)) jq)))), (oy, .inl (cI, 24, .inl (fun jq => nI (Y jq)))), (oz, .inl (cI, 24, .inl (fun jq => nI (Z jq)))), (ot, .inl (cI, n, .inl T))] s.heap := hP
  have hl := lv_entry ([.ref od, .int (nI i)]) (n := 3) (Nat.le_of_ble_eq_true rfl)
  rw [lg_entry_eq]
  generalize (lg_sl ([.ref od, .int (nI i)]) ++ List.replicate (3 - (lg_sl ([.ref od, .int (nI i)])).length) Slot.unset).toArray = ls at hl ⊢
  have hl : lv_has ls 3 [(0, .ref od), (1, .int (nI i))] := hl
  refine lv_aload_n hx hb dX1_drop_0 rfl (lv_at hl 0 rfl) ?_
  refine lv_iload_n hx hb dX1_drop_1 rfl (lv_at hl 1 rfl) ?_
  refine hw_callR (va_runV (b := od) (As := [.int (nI i)]) (rest := []) ⟨hx, hb, hml, hown, ht⟩ (c_isClause l D cI cZ od og ob oe oy oz ot n a (r + 1) d v Y Z T ok (nI i)) (cwV 1 ht (gV wm_X1_X1_isClause wi_X1_isClause ws_X1_isClause wn_X1 wc_X1_isClause) rfl rfl rfl (by decide +kernel) ⟨Nat.le_of_ble_eq_true rfl, Nat.le_of_ble_eq_true rfl⟩) (rPre_V 0 hP hK hN rfl rfl) rfl rfl hl.1 rfl (lv_room (Nat.le_of_ble_eq_true rfl)) dX1_drop_2 ⟨Nat.zero_le _, Nat.zero_le _⟩) ?_
  refine lv_nm (y := bI true) (congrArg bI (decide_eq_true (by rw [uN_nI (by omega)]; exact hi))) ?_
  refine lv_if_ne (tgt := 10) hx hb dX1_drop_5 rfl (fun _ => ?_) (fun hc => absurd (show true = false from (bI_eq0 _).mp hc) (by decide))
  refine lv_aload_n hx hb dX1_drop_10 rfl (lv_at hl 0 rfl) ?_
  refine va_get (D := D) (ci := 1) (v := .ref og) (C := RX1) (T := TX1) (N := 10) hx hb ht inX1 hown hK hP 0 rfl rfl 3 (by decide) (ht _ wf_X1_game) (fun _ h9 => h9) rfl dX1_drop_11 ?_
  refine lv_aload_n hx hb dX1_drop_14 rfl (lv_at hl 0 rfl) ?_
  refine va_get (D := D) (ci := 1) (v := .ref oy) (C := RX1) (T := TX1) (N := 10) hx hb ht inX1 hown hK hP 0 rfl rfl 4 (by decide) (ht _ wf_X1_yesSets) (fun _ h9 => h9) rfl dX1_drop_15 ?_
  refine lv_iload_n hx hb dX1_drop_18 rfl (lv_at hl 1 rfl) ?_
  refine na_nald (f := Y) hx hb hK hP 4 0 rfl rfl (j := i) (by omega) (by omega) dX1_drop_19 ?_
  refine lv_aload_n hx hb dX1_drop_20 rfl (lv_at hl 0 rfl) ?_
  refine va_get (D := D) (ci := 1) (v := .ref oz) (C := RX1) (T := TX1) (N := 10) hx hb ht inX1 hown hK hP 0 rfl rfl 5 (by decide) (ht _ wf_X1_noSets) (fun _ h9 => h9) rfl dX1_drop_21 ?_
  refine lv_iload_n hx hb dX1_drop_24 rfl (lv_at hl 1 rfl) ?_
  refine na_nald (f := Z) hx hb hK hP 5 0 rfl rfl (j := i) (by omega) (by omega) dX1_drop_25 ?_
  refine lv_iconst (v := (-1)) hx hb dX1_drop_26 (by decide) ?_
  refine hw_call (wc := [(og, .inr (0, [.int (nI n), .int (nI a), .ref ob, .ref oe])), (ob, .inl (cI, (2 ^ n), .inl (fun jq => nI ((sd_br Y Z (r + 1)) jq)))), (oe, .inl (cZ, (2 * 2 ^ n), .inl (fun jq => bI ((sd_ew n a (fun w => sd_br Y Z (r + 1) w == 0)) jq))))]) (wc' := [(og, .inr (0, [.int (nI n), .int (nI a), .ref ob, .ref oe])), (ob, .inl (cI, (2 ^ n), .inl (fun jq => nI ((sd_br (sd_sh Y i r) (sd_sh Z i r) r) jq)))), (oe, .inl (cZ, (2 * 2 ^ n), .inl (fun jq => bI ((sd_ew n a (fun w => sd_br (sd_sh Y i r) (sd_sh Z i r) r w == 0)) jq))))]) (wr := [(od, .inr (1, [.int (nI n), .int (nI a), .int (nI (2 ^ n - 1 - a)), .ref og, .ref oy, .ref oz, .int (nI (r + 1)), .int (nI d), .int (nI v), .ref ot])), (oy, .inl (cI, 24, .inl (fun jq => nI (Y jq)))), (oz, .inl (cI, 24, .inl (fun jq => nI (Z jq)))), (ot, .inl (cI, n, .inl T))]) (ws' := [(od, .inr (1, [.int (nI n), .int (nI a), .int (nI (2 ^ n - 1 - a)), .ref og, .ref oy, .ref oz, .int (nI (r + 1)), .int (nI d), .int (nI v), .ref ot])), (og, .inr (0, [.int (nI n), .int (nI a), .ref ob, .ref oe])), (ob, .inl (cI, (2 ^ n), .inl (fun jq => nI ((sd_br (sd_sh Y i r) (sd_sh Z i r) r) jq)))), (oe, .inl (cZ, (2 * 2 ^ n), .inl (fun jq => bI ((sd_ew n a (fun w => sd_br (sd_sh Y i r) (sd_sh Z i r) r w == 0)) jq)))), (oy, .inl (cI, 24, .inl (fun jq => nI (Y jq)))), (oz, .inl (cI, 24, .inl (fun jq => nI (Z jq)))), (ot, .inl (cI, n, .inl T))]) (va_runV (b := og) (As := [.int (nI (Y i)), .int (nI (Z i)), .int (-1)]) (rest := []) ⟨hx, hb, hml, hown, ht⟩ (c_change l D cI cZ og ob oe n a (Y i) (Z i) s.heap.size (-1) (sd_br Y Z (r + 1)) (sd_br (sd_sh Y i r) (sd_sh Z i r) r) (sd_ew n a (fun w => sd_br Y Z (r + 1) w == 0)) hn1 hn ha (hY i) (hZ i) (fun u _ => sd_brl Y Z (by omega) u) (fun u _ => sd_brl _ _ (by omega) u) (fun u _ => sd_out rfl (sd_br_sh Y Z u r (by omega))) rfl) (cwV 3 ht (gV wm_X1_X0_change wi_X0_change ws_X0_change wn_X0 wc_X0_change) rfl rfl rfl (by decide +kernel) ⟨Nat.le_of_ble_eq_true rfl, Nat.le_of_ble_eq_true rfl⟩) (wPre_V 0 (hP.sub [1, 2, 3] rfl) (hD.sub [1, 2, 3] (by decide) rfl) hK hN rfl rfl) rfl rfl hl.1 rfl (lv_room (Nat.le_of_ble_eq_true rfl)) dX1_drop_27 ⟨Nat.zero_le _, Nat.zero_le _⟩) hP hD hS hA [1, 2, 3] [0, 4, 5, 6] [0, 4, 5, 6, 1, 2, 3] rfl rfl (by decide) (by decide) (by decide) rfl rfl rfl (fun H locs hP hD hS => ?_)
  have hP : va_P D clS [(od, .inr (1, [.int (nI n), .int (nI a), .int (nI (2 ^ n - 1 - a)), .ref og, .ref oy, .ref oz, .int (nI (r + 1)), .int (nI d), .int (nI v), .ref ot])), (og, .inr (0, [.int (nI n), .int (nI a), .ref ob, .ref oe])), (ob, .inl (cI, (2 ^ n), .inl (fun jq => nI ((sd_br (sd_sh Y i r) (sd_sh Z i r) r) jq)))), (oe, .inl (cZ, (2 * 2 ^ n), .inl (fun jq => bI ((sd_ew n a (fun w => sd_br (sd_sh Y i r) (sd_sh Z i r) r w == 0)) jq)))), (oy, .inl (cI, 24, .inl (fun jq => nI (Y jq)))), (oz, .inl (cI, 24, .inl (fun jq => nI (Z jq)))), (ot, .inl (cI, n, .inl T))] H := hP
  have hD : va_D A [(od, .inr (1, [.int (nI n), .int (nI a), .int (nI (2 ^ n - 1 - a)), .ref og, .ref oy, .ref oz, .int (nI (r + 1)), .int (nI d), .int (nI v), .ref ot])), (og, .inr (0, [.int (nI n), .int (nI a), .ref ob, .ref oe])), (ob, .inl (cI, (2 ^ n), .inl (fun jq => nI ((sd_br (sd_sh Y i r) (sd_sh Z i r) r) jq)))), (oe, .inl (cZ, (2 * 2 ^ n), .inl (fun jq => bI ((sd_ew n a (fun w => sd_br (sd_sh Y i r) (sd_sh Z i r) r w == 0)) jq)))), (oy, .inl (cI, 24, .inl (fun jq => nI (Y jq)))), (oz, .inl (cI, 24, .inl (fun jq => nI (Z jq)))), (ot, .inl (cI, n, .inl T))] := hD
  refine W.eq (g2 := F0 m 30 ls []) rfl ?_
  refine lv_aload_n hx hb dX1_drop_30 rfl (lv_at hl 0 rfl) ?_
  refine lv_dup hx hb dX1_drop_31 rfl ?_
  refine va_get (D := D) (ci := 1) (v := .int (nI (r + 1))) (C := RX1) (T := TX1) (N := 10) hx hb ht inX1 hown hK hP 0 rfl rfl 6 (by decide) (ht _ wf_X1_clauseCount) (fun _ h9 => h9) rfl dX1_drop_32 ?_
  refine lv_iconst (v := nI 1) hx hb dX1_drop_35 (by decide) ?_
  refine lv_isub hx hb dX1_drop_36 ?_
  refine lv_nm (y := nI r) (nI_pred _) ?_
  refine va_put (D := D) (ci := 1) (v := .int (nI r)) (ty := .int) (C := RX1) (T := TX1) (N := 10) hx hb ht inX1 tyX1 tyX1_ok nmX1 hown hK hP hD hS 0 rfl rfl 6 (by decide) (ht _ wf_X1_clauseCount) (fun _ h9 => h9) rfl (by decide +kernel) rfl rfl (Nat.le_of_ble_eq_true rfl) dX1_drop_37 (fun H locs hP hD hS => ?_)
  have hP : va_P D clS [(od, .inr (1, [.int (nI n), .int (nI a), .int (nI (2 ^ n - 1 - a)), .ref og, .ref oy, .ref oz, .int (nI r), .int (nI d), .int (nI v), .ref ot])), (og, .inr (0, [.int (nI n), .int (nI a), .ref ob, .ref oe])), (ob, .inl (cI, (2 ^ n), .inl (fun jq => nI ((sd_br (sd_sh Y i r) (sd_sh Z i r) r) jq)))), (oe, .inl (cZ, (2 * 2 ^ n), .inl (fun jq => bI ((sd_ew n a (fun w => sd_br (sd_sh Y i r) (sd_sh Z i r) r w == 0)) jq)))), (oy, .inl (cI, 24, .inl (fun jq => nI (Y jq)))), (oz, .inl (cI, 24, .inl (fun jq => nI (Z jq)))), (ot, .inl (cI, n, .inl T))] H := hP
  have hD : va_D A [(od, .inr (1, [.int (nI n), .int (nI a), .int (nI (2 ^ n - 1 - a)), .ref og, .ref oy, .ref oz, .int (nI r), .int (nI d), .int (nI v), .ref ot])), (og, .inr (0, [.int (nI n), .int (nI a), .ref ob, .ref oe])), (ob, .inl (cI, (2 ^ n), .inl (fun jq => nI ((sd_br (sd_sh Y i r) (sd_sh Z i r) r) jq)))), (oe, .inl (cZ, (2 * 2 ^ n), .inl (fun jq => bI ((sd_ew n a (fun w => sd_br (sd_sh Y i r) (sd_sh Z i r) r w == 0)) jq)))), (oy, .inl (cI, 24, .inl (fun jq => nI (Y jq)))), (oz, .inl (cI, 24, .inl (fun jq => nI (Z jq)))), (ot, .inl (cI, n, .inl T))] := hD
  refine lv_iload_n hx hb dX1_drop_40 rfl (lv_at hl 1 rfl) ?_
  refine lv_istore_n hx hb dX1_drop_41 rfl hl (by decide) rfl (fun ls hl => ?_)
  have hl : lv_has ls 3 [(2, .int (nI i)), (0, .ref od), (1, .int (nI i))] := hl
  have hl : lv_has ls 3 [(0, .ref od), (1, .int (nI i)), (2, .int (nI i))] := lv_sub hl [1, 2, 0] rfl
  have hP : va_P D clS [(od, .inr (1, [.int (nI n), .int (nI a), .int (nI (2 ^ n - 1 - a)), .ref og, .ref oy, .ref oz, .int (nI r), .int (nI d), .int (nI v), .ref ot])), (og, .inr (0, [.int (nI n), .int (nI a), .ref ob, .ref oe])), (ob, .inl (cI, (2 ^ n), .inl (fun jq => nI ((sd_br (sd_sh Y i r) (sd_sh Z i r) r) jq)))), (oe, .inl (cZ, (2 * 2 ^ n), .inl (fun jq => bI ((sd_ew n a (fun w => sd_br (sd_sh Y i r) (sd_sh Z i r) r w == 0)) jq)))), (oy, .inl (cI, 24, .inl (fun jq => nI ((sd_sh Y i i) jq)))), (oz, .inl (cI, 24, .inl (fun jq => nI (Z jq)))), (ot, .inl (cI, n, .inl T))] H := hw_cgn hP (sd_sh Y i i) (q0 := 4) rfl (fun j _ => sd_sh_0 Y i j) rfl
  have hD : va_D A [(od, .inr (1, [.int (nI n), .int (nI a), .int (nI (2 ^ n - 1 - a)), .ref og, .ref oy, .ref oz, .int (nI r), .int (nI d), .int (nI v), .ref ot])), (og, .inr (0, [.int (nI n), .int (nI a), .ref ob, .ref oe])), (ob, .inl (cI, (2 ^ n), .inl (fun jq => nI ((sd_br (sd_sh Y i r) (sd_sh Z i r) r) jq)))), (oe, .inl (cZ, (2 * 2 ^ n), .inl (fun jq => bI ((sd_ew n a (fun w => sd_br (sd_sh Y i r) (sd_sh Z i r) r w == 0)) jq)))), (oy, .inl (cI, 24, .inl (fun jq => nI ((sd_sh Y i i) jq)))), (oz, .inl (cI, 24, .inl (fun jq => nI (Z jq)))), (ot, .inl (cI, n, .inl T))] := hw_ad hD rfl
  have hP : va_P D clS [(od, .inr (1, [.int (nI n), .int (nI a), .int (nI (2 ^ n - 1 - a)), .ref og, .ref oy, .ref oz, .int (nI r), .int (nI d), .int (nI v), .ref ot])), (og, .inr (0, [.int (nI n), .int (nI a), .ref ob, .ref oe])), (ob, .inl (cI, (2 ^ n), .inl (fun jq => nI ((sd_br (sd_sh Y i r) (sd_sh Z i r) r) jq)))), (oe, .inl (cZ, (2 * 2 ^ n), .inl (fun jq => bI ((sd_ew n a (fun w => sd_br (sd_sh Y i r) (sd_sh Z i r) r w == 0)) jq)))), (oy, .inl (cI, 24, .inl (fun jq => nI ((sd_sh Y i i) jq)))), (oz, .inl (cI, 24, .inl (fun jq => nI ((sd_sh Z i i) jq)))), (ot, .inl (cI, n, .inl T))] H := hw_cgn hP (sd_sh Z i i) (q0 := 5) rfl (fun j _ => sd_sh_0 Z i j) rfl
  have hD : va_D A [(od, .inr (1, [.int (nI n), .int (nI a), .int (nI (2 ^ n - 1 - a)), .ref og, .ref oy, .ref oz, .int (nI r), .int (nI d), .int (nI v), .ref ot])), (og, .inr (0, [.int (nI n), .int (nI a), .ref ob, .ref oe])), (ob, .inl (cI, (2 ^ n), .inl (fun jq => nI ((sd_br (sd_sh Y i r) (sd_sh Z i r) r) jq)))), (oe, .inl (cZ, (2 * 2 ^ n), .inl (fun jq => bI ((sd_ew n a (fun w => sd_br (sd_sh Y i r) (sd_sh Z i r) r w == 0)) jq)))), (oy, .inl (cI, 24, .inl (fun jq => nI ((sd_sh Y i i) jq)))), (oz, .inl (cI, 24, .inl (fun jq => nI ((sd_sh Z i i) jq)))), (ot, .inl (cI, n, .inl T))] := hw_ad hD rfl
  suffices lp : ∀ k : Nat, ∀ (j : Nat) (ls : Array Slot) (H : Heap) (locs : List Loc), (j + k = r) → (i ≤ j) → lv_has ls 3 [(0, .ref od), (1, .int (nI i)), (2, .int (nI j))] → va_P D clS [(od, .inr (1, [.int (nI n), .int (nI a), .int (nI (2 ^ n - 1 - a)), .ref og, .ref oy, .ref oz, .int (nI r), .int (nI d), .int (nI v), .ref ot])), (og, .inr (0, [.int (nI n), .int (nI a), .ref ob, .ref oe])), (ob, .inl (cI, (2 ^ n), .inl (fun jq => nI ((sd_br (sd_sh Y i r) (sd_sh Z i r) r) jq)))), (oe, .inl (cZ, (2 * 2 ^ n), .inl (fun jq => bI ((sd_ew n a (fun w => sd_br (sd_sh Y i r) (sd_sh Z i r) r w == 0)) jq)))), (oy, .inl (cI, 24, .inl (fun jq => nI ((sd_sh Y i j) jq)))), (oz, .inl (cI, 24, .inl (fun jq => nI ((sd_sh Z i j) jq)))), (ot, .inl (cI, n, .inl T))] H → va_S A s.heap H locs → W p l e (headSpec (kX1_drop :: aW) { frames := 4, cells := 0, slots := 0, locals := 93 }).room s m (([.ref od, .int (nI i)] : List Value).toArray) below meth c H locs 0 0 (MQ below (wQ (some (.int (bI true))) D [(od, .inr (1, [.int (nI n), .int (nI a), .int (nI (2 ^ n - 1 - a)), .ref og, .ref oy, .ref oz, .int (nI r), .int (nI d), .int (nI v), .ref ot])), (og, .inr (0, [.int (nI n), .int (nI a), .ref ob, .ref oe])), (ob, .inl (cI, (2 ^ n), .inl (fun jq => nI ((sd_br (sd_sh Y i r) (sd_sh Z i r) r) jq)))), (oe, .inl (cZ, (2 * 2 ^ n), .inl (fun jq => bI ((sd_ew n a (fun w => sd_br (sd_sh Y i r) (sd_sh Z i r) r w == 0)) jq)))), (oy, .inl (cI, 24, .inl (fun jq => nI ((sd_sh Y i r) jq)))), (oz, .inl (cI, 24, .inl (fun jq => nI ((sd_sh Z i r) jq)))), (ot, .inl (cI, n, .inl T))] A) (([.ref od, .int (nI i)] : List Value).toArray) s 0 0 A) (F0 m 42 ls []) by
    exact lp (r - i) i ls H locs (by omega) (Nat.le_refl i) hl hP hS
  intro k
  induction k with
  | zero =>
    intro j ls H locs hj hij hl hP hS
    have hD : va_D A [(od, .inr (1, [.int (nI n), .int (nI a), .int (nI (2 ^ n - 1 - a)), .ref og, .ref oy, .ref oz, .int (nI r), .int (nI d), .int (nI v), .ref ot])), (og, .inr (0, [.int (nI n), .int (nI a), .ref ob, .ref oe])), (ob, .inl (cI, (2 ^ n), .inl (fun jq => nI ((sd_br (sd_sh Y i r) (sd_sh Z i r) r) jq)))), (oe, .inl (cZ, (2 * 2 ^ n), .inl (fun jq => bI ((sd_ew n a (fun w => sd_br (sd_sh Y i r) (sd_sh Z i r) r w == 0)) jq)))), (oy, .inl (cI, 24, .inl (fun jq => nI ((sd_sh Y i j) jq)))), (oz, .inl (cI, 24, .inl (fun jq => nI ((sd_sh Z i j) jq)))), (ot, .inl (cI, n, .inl T))] := hw_ad hD rfl
    refine lv_iload_n hx hb dX1_drop_42 rfl (lv_at hl 2 rfl) ?_
    refine lv_aload_n hx hb dX1_drop_43 rfl (lv_at hl 0 rfl) ?_
    refine va_get (D := D) (ci := 1) (v := .int (nI r)) (C := RX1) (T := TX1) (N := 10) hx hb ht inX1 hown hK hP 0 rfl rfl 6 (by decide) (ht _ wf_X1_clauseCount) (fun _ h9 => h9) rfl dX1_drop_44 ?_
    refine lv_icmp_ge (tgt := 84) hx hb dX1_drop_47 rfl (fun _ => ?_) (fun hc => absurd (show ¬ (r ≤ j) from fun h9 => hc ((nI_leI (by omega) (by omega)).mpr h9)) (by omega))
    obtain rfl : r = j := by omega
    refine lv_iconst (v := nI 1) hx hb dX1_drop_84 (by decide) ?_
    exact W.zret hx hb hr rfl (fun t ht2 _ => ⟨hw_ret (rfl), by rw [ht2]; exact hP, hS.F ht2⟩) hS.2.2 dX1_drop_85
  | succ k ih =>
    intro j ls H locs hj hij hl hP hS
    have hD : va_D A [(od, .inr (1, [.int (nI n), .int (nI a), .int (nI (2 ^ n - 1 - a)), .ref og, .ref oy, .ref oz, .int (nI r), .int (nI d), .int (nI v), .ref ot])), (og, .inr (0, [.int (nI n), .int (nI a), .ref ob, .ref oe])), (ob, .inl (cI, (2 ^ n), .inl (fun jq => nI ((sd_br (sd_sh Y i r) (sd_sh Z i r) r) jq)))), (oe, .inl (cZ, (2 * 2 ^ n), .inl (fun jq => bI ((sd_ew n a (fun w => sd_br (sd_sh Y i r) (sd_sh Z i r) r w == 0)) jq)))), (oy, .inl (cI, 24, .inl (fun jq => nI ((sd_sh Y i j) jq)))), (oz, .inl (cI, 24, .inl (fun jq => nI ((sd_sh Z i j) jq)))), (ot, .inl (cI, n, .inl T))] := hw_ad hD rfl
    refine lv_iload_n hx hb dX1_drop_42 rfl (lv_at hl 2 rfl) ?_
    refine lv_aload_n hx hb dX1_drop_43 rfl (lv_at hl 0 rfl) ?_
    refine va_get (D := D) (ci := 1) (v := .int (nI r)) (C := RX1) (T := TX1) (N := 10) hx hb ht inX1 hown hK hP 0 rfl rfl 6 (by decide) (ht _ wf_X1_clauseCount) (fun _ h9 => h9) rfl dX1_drop_44 ?_
    refine lv_icmp_ge (tgt := 84) hx hb dX1_drop_47 rfl (fun hc => absurd (show r ≤ j from (nI_leI (by omega) (by omega)).mp hc) (by omega)) (fun _ => ?_)
    refine lv_aload_n hx hb dX1_drop_50 rfl (lv_at hl 0 rfl) ?_
    refine va_get (D := D) (ci := 1) (v := .ref oy) (C := RX1) (T := TX1) (N := 10) hx hb ht inX1 hown hK hP 0 rfl rfl 4 (by decide) (ht _ wf_X1_yesSets) (fun _ h9 => h9) rfl dX1_drop_51 ?_
    refine lv_iload_n hx hb dX1_drop_54 rfl (lv_at hl 2 rfl) ?_
    refine lv_aload_n hx hb dX1_drop_55 rfl (lv_at hl 0 rfl) ?_
    refine va_get (D := D) (ci := 1) (v := .ref oy) (C := RX1) (T := TX1) (N := 10) hx hb ht inX1 hown hK hP 0 rfl rfl 4 (by decide) (ht _ wf_X1_yesSets) (fun _ h9 => h9) rfl dX1_drop_56 ?_
    refine lv_iload_n hx hb dX1_drop_59 rfl (lv_at hl 2 rfl) ?_
    refine lv_iconst (v := nI 1) hx hb dX1_drop_60 (by decide) ?_
    refine lv_iadd hx hb dX1_drop_61 ?_
    refine lv_nm (y := nI (j + 1)) (nI_add _ _) ?_
    refine na_nald (f := sd_sh Y i j) hx hb hK hP 4 0 rfl rfl (j := j + 1) (by omega) (by omega) dX1_drop_62 ?_
    refine na_nast (f := sd_sh Y i j) (x := (sd_sh Y i j) (j + 1)) hx hb hK hP hD hS 4 0 rfl rfl (j := j) (by omega) (by omega) dX1_drop_63 (fun H locs hP hD hS => ?_)
    have hP : va_P D clS [(od, .inr (1, [.int (nI n), .int (nI a), .int (nI (2 ^ n - 1 - a)), .ref og, .ref oy, .ref oz, .int (nI r), .int (nI d), .int (nI v), .ref ot])), (og, .inr (0, [.int (nI n), .int (nI a), .ref ob, .ref oe])), (ob, .inl (cI, (2 ^ n), .inl (fun jq => nI ((sd_br (sd_sh Y i r) (sd_sh Z i r) r) jq)))), (oe, .inl (cZ, (2 * 2 ^ n), .inl (fun jq => bI ((sd_ew n a (fun w => sd_br (sd_sh Y i r) (sd_sh Z i r) r w == 0)) jq)))), (oy, .inl (cI, 24, .inl (fun jq => nI ((va_up (sd_sh Y i j) j ((sd_sh Y i j) (j + 1))) jq)))), (oz, .inl (cI, 24, .inl (fun jq => nI ((sd_sh Z i j) jq)))), (ot, .inl (cI, n, .inl T))] H := hP
    have hD : va_D A [(od, .inr (1, [.int (nI n), .int (nI a), .int (nI (2 ^ n - 1 - a)), .ref og, .ref oy, .ref oz, .int (nI r), .int (nI d), .int (nI v), .ref ot])), (og, .inr (0, [.int (nI n), .int (nI a), .ref ob, .ref oe])), (ob, .inl (cI, (2 ^ n), .inl (fun jq => nI ((sd_br (sd_sh Y i r) (sd_sh Z i r) r) jq)))), (oe, .inl (cZ, (2 * 2 ^ n), .inl (fun jq => bI ((sd_ew n a (fun w => sd_br (sd_sh Y i r) (sd_sh Z i r) r w == 0)) jq)))), (oy, .inl (cI, 24, .inl (fun jq => nI ((va_up (sd_sh Y i j) j ((sd_sh Y i j) (j + 1))) jq)))), (oz, .inl (cI, 24, .inl (fun jq => nI ((sd_sh Z i j) jq)))), (ot, .inl (cI, n, .inl T))] := hD
    have hP : va_P D clS [(od, .inr (1, [.int (nI n), .int (nI a), .int (nI (2 ^ n - 1 - a)), .ref og, .ref oy, .ref oz, .int (nI r), .int (nI d), .int (nI v), .ref ot])), (og, .inr (0, [.int (nI n), .int (nI a), .ref ob, .ref oe])), (ob, .inl (cI, (2 ^ n), .inl (fun jq => nI ((sd_br (sd_sh Y i r) (sd_sh Z i r) r) jq)))), (oe, .inl (cZ, (2 * 2 ^ n), .inl (fun jq => bI ((sd_ew n a (fun w => sd_br (sd_sh Y i r) (sd_sh Z i r) r w == 0)) jq)))), (oy, .inl (cI, 24, .inl (fun jq => nI ((sd_sh Y i (j + 1)) jq)))), (oz, .inl (cI, 24, .inl (fun jq => nI ((sd_sh Z i j) jq)))), (ot, .inl (cI, n, .inl T))] H := hw_cgn hP (sd_sh Y i (j + 1)) (q0 := 4) rfl (fun t _ => sd_sh_s Y hij t) rfl
    have hD : va_D A [(od, .inr (1, [.int (nI n), .int (nI a), .int (nI (2 ^ n - 1 - a)), .ref og, .ref oy, .ref oz, .int (nI r), .int (nI d), .int (nI v), .ref ot])), (og, .inr (0, [.int (nI n), .int (nI a), .ref ob, .ref oe])), (ob, .inl (cI, (2 ^ n), .inl (fun jq => nI ((sd_br (sd_sh Y i r) (sd_sh Z i r) r) jq)))), (oe, .inl (cZ, (2 * 2 ^ n), .inl (fun jq => bI ((sd_ew n a (fun w => sd_br (sd_sh Y i r) (sd_sh Z i r) r w == 0)) jq)))), (oy, .inl (cI, 24, .inl (fun jq => nI ((sd_sh Y i (j + 1)) jq)))), (oz, .inl (cI, 24, .inl (fun jq => nI ((sd_sh Z i j) jq)))), (ot, .inl (cI, n, .inl T))] := hw_ad hD rfl
    refine lv_aload_n hx hb dX1_drop_64 rfl (lv_at hl 0 rfl) ?_
    refine va_get (D := D) (ci := 1) (v := .ref oz) (C := RX1) (T := TX1) (N := 10) hx hb ht inX1 hown hK hP 0 rfl rfl 5 (by decide) (ht _ wf_X1_noSets) (fun _ h9 => h9) rfl dX1_drop_65 ?_
    refine lv_iload_n hx hb dX1_drop_68 rfl (lv_at hl 2 rfl) ?_
    refine lv_aload_n hx hb dX1_drop_69 rfl (lv_at hl 0 rfl) ?_
    refine va_get (D := D) (ci := 1) (v := .ref oz) (C := RX1) (T := TX1) (N := 10) hx hb ht inX1 hown hK hP 0 rfl rfl 5 (by decide) (ht _ wf_X1_noSets) (fun _ h9 => h9) rfl dX1_drop_70 ?_
    refine lv_iload_n hx hb dX1_drop_73 rfl (lv_at hl 2 rfl) ?_
    refine lv_iconst (v := nI 1) hx hb dX1_drop_74 (by decide) ?_
    refine lv_iadd hx hb dX1_drop_75 ?_
    refine lv_nm (y := nI (j + 1)) (nI_add _ _) ?_
    refine na_nald (f := sd_sh Z i j) hx hb hK hP 5 0 rfl rfl (j := j + 1) (by omega) (by omega) dX1_drop_76 ?_
    refine na_nast (f := sd_sh Z i j) (x := (sd_sh Z i j) (j + 1)) hx hb hK hP hD hS 5 0 rfl rfl (j := j) (by omega) (by omega) dX1_drop_77 (fun H locs hP hD hS => ?_)
    have hP : va_P D clS [(od, .inr (1, [.int (nI n), .int (nI a), .int (nI (2 ^ n - 1 - a)), .ref og, .ref oy, .ref oz, .int (nI r), .int (nI d), .int (nI v), .ref ot])), (og, .inr (0, [.int (nI n), .int (nI a), .ref ob, .ref oe])), (ob, .inl (cI, (2 ^ n), .inl (fun jq => nI ((sd_br (sd_sh Y i r) (sd_sh Z i r) r) jq)))), (oe, .inl (cZ, (2 * 2 ^ n), .inl (fun jq => bI ((sd_ew n a (fun w => sd_br (sd_sh Y i r) (sd_sh Z i r) r w == 0)) jq)))), (oy, .inl (cI, 24, .inl (fun jq => nI ((sd_sh Y i (j + 1)) jq)))), (oz, .inl (cI, 24, .inl (fun jq => nI ((va_up (sd_sh Z i j) j ((sd_sh Z i j) (j + 1))) jq)))), (ot, .inl (cI, n, .inl T))] H := hP
    have hD : va_D A [(od, .inr (1, [.int (nI n), .int (nI a), .int (nI (2 ^ n - 1 - a)), .ref og, .ref oy, .ref oz, .int (nI r), .int (nI d), .int (nI v), .ref ot])), (og, .inr (0, [.int (nI n), .int (nI a), .ref ob, .ref oe])), (ob, .inl (cI, (2 ^ n), .inl (fun jq => nI ((sd_br (sd_sh Y i r) (sd_sh Z i r) r) jq)))), (oe, .inl (cZ, (2 * 2 ^ n), .inl (fun jq => bI ((sd_ew n a (fun w => sd_br (sd_sh Y i r) (sd_sh Z i r) r w == 0)) jq)))), (oy, .inl (cI, 24, .inl (fun jq => nI ((sd_sh Y i (j + 1)) jq)))), (oz, .inl (cI, 24, .inl (fun jq => nI ((va_up (sd_sh Z i j) j ((sd_sh Z i j) (j + 1))) jq)))), (ot, .inl (cI, n, .inl T))] := hD
    have hP : va_P D clS [(od, .inr (1, [.int (nI n), .int (nI a), .int (nI (2 ^ n - 1 - a)), .ref og, .ref oy, .ref oz, .int (nI r), .int (nI d), .int (nI v), .ref ot])), (og, .inr (0, [.int (nI n), .int (nI a), .ref ob, .ref oe])), (ob, .inl (cI, (2 ^ n), .inl (fun jq => nI ((sd_br (sd_sh Y i r) (sd_sh Z i r) r) jq)))), (oe, .inl (cZ, (2 * 2 ^ n), .inl (fun jq => bI ((sd_ew n a (fun w => sd_br (sd_sh Y i r) (sd_sh Z i r) r w == 0)) jq)))), (oy, .inl (cI, 24, .inl (fun jq => nI ((sd_sh Y i (j + 1)) jq)))), (oz, .inl (cI, 24, .inl (fun jq => nI ((sd_sh Z i (j + 1)) jq)))), (ot, .inl (cI, n, .inl T))] H := hw_cgn hP (sd_sh Z i (j + 1)) (q0 := 5) rfl (fun t _ => sd_sh_s Z hij t) rfl
    have hD : va_D A [(od, .inr (1, [.int (nI n), .int (nI a), .int (nI (2 ^ n - 1 - a)), .ref og, .ref oy, .ref oz, .int (nI r), .int (nI d), .int (nI v), .ref ot])), (og, .inr (0, [.int (nI n), .int (nI a), .ref ob, .ref oe])), (ob, .inl (cI, (2 ^ n), .inl (fun jq => nI ((sd_br (sd_sh Y i r) (sd_sh Z i r) r) jq)))), (oe, .inl (cZ, (2 * 2 ^ n), .inl (fun jq => bI ((sd_ew n a (fun w => sd_br (sd_sh Y i r) (sd_sh Z i r) r w == 0)) jq)))), (oy, .inl (cI, 24, .inl (fun jq => nI ((sd_sh Y i (j + 1)) jq)))), (oz, .inl (cI, 24, .inl (fun jq => nI ((sd_sh Z i (j + 1)) jq)))), (ot, .inl (cI, n, .inl T))] := hw_ad hD rfl
    refine lv_iinc (k := 2) (v := nI (j + 1)) hx hb dX1_drop_78 hl rfl (hw_inc _) (by decide) rfl (fun ls hl => ?_)
    have hl : lv_has ls 3 [(2, .int (nI (j + 1))), (0, .ref od), (1, .int (nI i))] := hl
    refine lv_goto (tgt := 42) hx hb dX1_drop_81 rfl ?_
    have hl : lv_has ls 3 [(0, .ref od), (1, .int (nI i)), (2, .int (nI (j + 1)))] := lv_sub hl [1, 2, 0] rfl
    exact ih (j + 1) ls H locs (by omega) (by omega) hl hP hS

set_option maxHeartbeats 4000000 in
set_option maxRecDepth 100000 in
theorem c_leavesWinner (l : Launch) (D : va_G) (cI cZ : ClassId) (od og ob oe oy oz ot n a q d v : Nat) (Y Z : Nat → Nat) (T : Nat → Int32) (ok : dOk n a q d v Y Z) (sz : Nat) (y z : Nat) (st : Int32) (Bq : Nat → Nat) (hy : y < 2 ^ n) (hz : z < 2 ^ n) (hBq2 : ∀ u, u < 2 ^ n → Bq u < 2 ^ 31) (hB1 : ∀ u, u < 2 ^ n → (if sd_fl y z u = true then nI (sd_br Y Z q u) + st else nI (sd_br Y Z q u)) = nI (Bq u)) (hB2 : ∀ u, u < 2 ^ n → (if sd_fl y z u = true then nI (Bq u) + -st else nI (Bq u)) = nI (sd_br Y Z q u)) : Met l yX1_leavesWinner (kX1_leavesWinner :: aW) { frames := 4, cells := 0, slots := 0, locals := 93 } (wPre [.ref od, .int (nI y), .int (nI z), .int st] D [(od, .inr (1, [.int (nI n), .int (nI a), .int (nI (2 ^ n - 1 - a)), .ref og, .ref oy, .ref oz, .int (nI q), .int (nI d), .int (nI v), .ref ot])), (og, .inr (0, [.int (nI n), .int (nI a), .ref ob, .ref oe])), (ob, .inl (cI, (2 ^ n), .inl (fun jq => nI ((sd_br Y Z q) jq)))), (oe, .inl (cZ, (2 * 2 ^ n), .inl (fun jq => bI ((sd_ew n a (fun w => sd_br Y Z q w == 0)) jq)))), (oy, .inl (cI, 24, .inl (fun jq => nI (Y jq)))), (oz, .inl (cI, 24, .inl (fun jq => nI (Z jq)))), (ot, .inl (cI, n, .inl T))] [(cI, .int), (cZ, .boolean)] sz) (wQ (some (.int (bI (sd_E n a (fun w => sd_br Y Z q w == 0) 0 0 == sd_E n a (fun w => Bq w == 0) 0 0)))) D [(od, .inr (1, [.int (nI n), .int (nI a), .int (nI (2 ^ n - 1 - a)), .ref og, .ref oy, .ref oz, .int (nI q), .int (nI d), .int (nI v), .ref ot])), (og, .inr (0, [.int (nI n), .int (nI a), .ref ob, .ref oe])), (ob, .inl (cI, (2 ^ n), .inl (fun jq => nI ((sd_br Y Z q) jq)))), (oe, .inl (cZ, (2 * 2 ^ n), .inl (fun jq => bI ((sd_ew n a (fun w => sd_br Y Z q w == 0)) jq)))), (oy, .inl (cI, 24, .inl (fun jq => nI (Y jq)))), (oz, .inl (cI, 24, .inl (fun jq => nI (Z jq)))), (ot, .inl (cI, n, .inl T))] (va_A [(od, .inr (1, [.int (nI n), .int (nI a), .int (nI (2 ^ n - 1 - a)), .ref og, .ref oy, .ref oz, .int (nI q), .int (nI d), .int (nI v), .ref ot])), (og, .inr (0, [.int (nI n), .int (nI a), .ref ob, .ref oe])), (ob, .inl (cI, (2 ^ n), .inl (fun jq => nI ((sd_br Y Z q) jq)))), (oe, .inl (cZ, (2 * 2 ^ n), .inl (fun jq => bI ((sd_ew n a (fun w => sd_br Y Z q w == 0)) jq)))), (oy, .inl (cI, 24, .inl (fun jq => nI (Y jq)))), (oz, .inl (cI, 24, .inl (fun jq => nI (Z jq)))), (ot, .inl (cI, n, .inl T))] sz)) 0 0 (va_A [(od, .inr (1, [.int (nI n), .int (nI a), .int (nI (2 ^ n - 1 - a)), .ref og, .ref oy, .ref oz, .int (nI q), .int (nI d), .int (nI v), .ref ot])), (og, .inr (0, [.int (nI n), .int (nI a), .ref ob, .ref oe])), (ob, .inl (cI, (2 ^ n), .inl (fun jq => nI ((sd_br Y Z q) jq)))), (oe, .inl (cZ, (2 * 2 ^ n), .inl (fun jq => bI ((sd_ew n a (fun w => sd_br Y Z q w == 0)) jq)))), (oy, .inl (cI, 24, .inl (fun jq => nI (Y jq)))), (oz, .inl (cI, 24, .inl (fun jq => nI (Z jq)))), (ot, .inl (cI, n, .inl T))] sz) := by
  obtain ⟨hn1, hn, ha, h5, hq, hY, hZ, hd, hv⟩ := id ok
  have h2n := hw_p10 hn
  refine Met.ofW (cc := cX1_leavesWinner) (maxL := 6) (ret := (some .boolean)) (by decide) rfl ?_
  intro p e s m args below meth c s₁ Bo hml hpre
  obtain ⟨rfl, hsz, hP, hK, hN, hD0⟩ := hpre
  subst hsz
  have hD := hD0.self (sz := s.heap.size)
  generalize hAe : va_A [(od, .inr (1, [.int (nI n), .int (nI a), .int (nI (2 ^ n - 1 - a)), .ref og, .ref oy, .ref oz, .int (nI q), .int (nI d), .int (nI v), .ref ot])), (og, .inr (0, [.int (nI n), .int (nI a), .ref ob, .ref oe])), (ob, .inl (cI, (2 ^ n), .inl (fun jq => nI ((sd_br Y Z q) jq)))), (oe, .inl (cZ, (2 * 2 ^ n), .inl (fun jq => bI ((sd_ew n a (fun w => sd_br Y Z q w == 0)) jq)))), (oy, .inl (cI, 24, .inl (fun jq => nI (Y jq)))), (oz, .inl (cI, 24, .inl (fun jq => nI (Z jq)))), (ot, .inl (cI, n, .inl T))] s.heap.size = A at hD ⊢
  have hA : ∀ q : Nat, s.heap.size ≤ q → A q := fun q h => by rw [← hAe]; exact Or.inr h
  have hS : va_S A s.heap s.heap [] := va_S.rf
  have hx := Bo.exec
  have hb := Bo.bytes
  have hr := Bo.returns
  have hts := atoms_spec (ws := kX1_leavesWinner :: aW) Bo.pre
  have ht : ∀ w ∈ aW, w.before _ s = true := fun w h => hts w (List.mem_cons_of_mem _ h)
  have hown : s.vm.findClass RX1 = some m.cls := findClass_of_methodNamed Bo.named
  have hlocks := Bo.notSynchronized
  have hP : va_P D clS [(od, .inr (1, [.int (nI n), .int (nI a), .int (nI (2 ^ n - 1 - a)), .ref og, .ref oy, .ref oz, .int (nI q), .int (nI d), .int (nI v), .ref ot])), (og, .inr (0, [.int (nI n), .int (nI a), .ref ob, .ref oe])), (ob, .inl (cI, (2 ^ n), .inl (fun jq => nI ((sd_br Y Z q) jq)))), (oe, .inl (cZ, (2 * 2 ^ n), .inl (fun jq => bI ((sd_ew n a (fun w => sd_br Y Z q w == 0)) jq)))), (oy, .inl (cI, 24, .inl (fun jq => nI (Y jq)))), (oz, .inl (cI, 24, .inl (fun jq => nI (Z jq)))), (ot, .inl (cI, n, .inl T))] s.heap := hP
  have hl := lv_entry ([.ref od, .int (nI y), .int (nI z), .int st]) (n := 6) (Nat.le_of_ble_eq_true rfl)
  rw [lg_entry_eq]
  generalize (lg_sl ([.ref od, .int (nI y), .int (nI z), .int st]) ++ List.replicate (6 - (lg_sl ([.ref od, .int (nI y), .int (nI z), .int st])).length) Slot.unset).toArray = ls at hl ⊢
  have hl : lv_has ls 6 [(0, .ref od), (1, .int (nI y)), (2, .int (nI z)), (3, .int st)] := hl
  have hpn := Nat.two_pow_pos n
  refine lv_aload_n hx hb dX1_leavesWinner_0 rfl (lv_at hl 0 rfl) ?_
  refine va_get (D := D) (ci := 1) (v := .ref og) (C := RX1) (T := TX1) (N := 10) hx hb ht inX1 hown hK hP 0 rfl rfl 3 (by decide) (ht _ wf_X1_game) (fun _ h9 => h9) rfl dX1_leavesWinner_1 ?_
  refine lv_iconst (v := nI 0) hx hb dX1_leavesWinner_4 (by decide) ?_
  refine lv_iconst (v := nI 0) hx hb dX1_leavesWinner_5 (by decide) ?_
  refine hw_callR (va_runV (b := og) (As := [.int (nI 0), .int (nI 0)]) (rest := []) ⟨hx, hb, hml, hown, ht⟩ (c_eveWinsAt l D cI cZ og ob oe n a 0 0 (sd_br Y Z q) (sd_ew n a (fun w => sd_br Y Z q w == 0)) hn (by omega) (by show 1 + 0 < _; omega)) (cwV 2 ht (gV wm_X1_X0_eveWinsAt wi_X0_eveWinsAt ws_X0_eveWinsAt wn_X0 wc_X0_eveWinsAt) rfl rfl rfl (by decide +kernel) ⟨Nat.le_of_ble_eq_true rfl, Nat.le_of_ble_eq_true rfl⟩) (rPre_V 0 (hP.sub [1, 2, 3] rfl) hK hN rfl rfl) rfl rfl hl.1 rfl (lv_room (Nat.le_of_ble_eq_true rfl)) dX1_leavesWinner_6 ⟨Nat.zero_le _, Nat.zero_le _⟩) ?_
  refine lv_nm (y := bI (sd_E n a (fun w => sd_br Y Z q w == 0) 0 0)) (congrArg bI (sd_ew_at (d := 0) (v := 0) (by decide))) ?_
  refine lv_istore hx hb dX1_leavesWinner_9 hl (by decide) rfl (fun ls hl => ?_)
  have hl : lv_has ls 6 [(4, .int (bI (sd_E n a (fun w => sd_br Y Z q w == 0) 0 0))), (0, .ref od), (1, .int (nI y)), (2, .int (nI z)), (3, .int st)] := hl
  refine lv_aload_n hx hb dX1_leavesWinner_11 rfl (lv_at hl 1 rfl) ?_
  refine va_get (D := D) (ci := 1) (v := .ref og) (C := RX1) (T := TX1) (N := 10) hx hb ht inX1 hown hK hP 0 rfl rfl 3 (by decide) (ht _ wf_X1_game) (fun _ h9 => h9) rfl dX1_leavesWinner_12 ?_
  refine lv_iload_n hx hb dX1_leavesWinner_15 rfl (lv_at hl 2 rfl) ?_
  refine lv_iload_n hx hb dX1_leavesWinner_16 rfl (lv_at hl 3 rfl) ?_
  refine lv_iload_n hx hb dX1_leavesWinner_17 rfl (lv_at hl 4 rfl) ?_
  refine hw_call (wc := [(og, .inr (0, [.int (nI n), .int (nI a), .ref ob, .ref oe])), (ob, .inl (cI, (2 ^ n), .inl (fun jq => nI ((sd_br Y Z q) jq)))), (oe, .inl (cZ, (2 * 2 ^ n), .inl (fun jq => bI ((sd_ew n a (fun w => sd_br Y Z q w == 0)) jq))))]) (wc' := [(og, .inr (0, [.int (nI n), .int (nI a), .ref ob, .ref oe])), (ob, .inl (cI, (2 ^ n), .inl (fun jq => nI (Bq jq)))), (oe, .inl (cZ, (2 * 2 ^ n), .inl (fun jq => bI ((sd_ew n a (fun w => Bq w == 0)) jq))))]) (wr := [(od, .inr (1, [.int (nI n), .int (nI a), .int (nI (2 ^ n - 1 - a)), .ref og, .ref oy, .ref oz, .int (nI q), .int (nI d), .int (nI v), .ref ot])), (oy, .inl (cI, 24, .inl (fun jq => nI (Y jq)))), (oz, .inl (cI, 24, .inl (fun jq => nI (Z jq)))), (ot, .inl (cI, n, .inl T))]) (ws' := [(od, .inr (1, [.int (nI n), .int (nI a), .int (nI (2 ^ n - 1 - a)), .ref og, .ref oy, .ref oz, .int (nI q), .int (nI d), .int (nI v), .ref ot])), (og, .inr (0, [.int (nI n), .int (nI a), .ref ob, .ref oe])), (ob, .inl (cI, (2 ^ n), .inl (fun jq => nI (Bq jq)))), (oe, .inl (cZ, (2 * 2 ^ n), .inl (fun jq => bI ((sd_ew n a (fun w => Bq w == 0)) jq)))), (oy, .inl (cI, 24, .inl (fun jq => nI (Y jq)))), (oz, .inl (cI, 24, .inl (fun jq => nI (Z jq)))), (ot, .inl (cI, n, .inl T))]) (va_runV (b := og) (As := [.int (nI y), .int (nI z), .int st]) (rest := []) ⟨hx, hb, hml, hown, ht⟩ (c_change l D cI cZ og ob oe n a y z s.heap.size st (sd_br Y Z q) Bq (sd_ew n a (fun w => sd_br Y Z q w == 0)) hn1 hn ha hy hz (fun u _ => sd_brl Y Z (by omega) u) hBq2 hB1 rfl) (cwV 3 ht (gV wm_X1_X0_change wi_X0_change ws_X0_change wn_X0 wc_X0_change) rfl rfl rfl (by decide +kernel) ⟨Nat.le_of_ble_eq_true rfl, Nat.le_of_ble_eq_true rfl⟩) (wPre_V 0 (hP.sub [1, 2, 3] rfl) (hD.sub [1, 2, 3] (by decide) rfl) hK hN rfl rfl) rfl rfl hl.1 rfl (lv_room (Nat.le_of_ble_eq_true rfl)) dX1_leavesWinner_18 ⟨Nat.zero_le _, Nat.zero_le _⟩) hP hD hS hA [1, 2, 3] [0, 4, 5, 6] [0, 4, 5, 6, 1, 2, 3] rfl rfl (by decide) (by decide) (by decide) rfl rfl rfl (fun H locs hP hD hS => ?_)
  have hP : va_P D clS [(od, .inr (1, [.int (nI n), .int (nI a), .int (nI (2 ^ n - 1 - a)), .ref og, .ref oy, .ref oz, .int (nI q), .int (nI d), .int (nI v), .ref ot])), (og, .inr (0, [.int (nI n), .int (nI a), .ref ob, .ref oe])), (ob, .inl (cI, (2 ^ n), .inl (fun jq => nI (Bq jq)))), (oe, .inl (cZ, (2 * 2 ^ n), .inl (fun jq => bI ((sd_ew n a (fun w => Bq w == 0)) jq)))), (oy, .inl (cI, 24, .inl (fun jq => nI (Y jq)))), (oz, .inl (cI, 24, .inl (fun jq => nI (Z jq)))), (ot, .inl (cI, n, .inl T))] H := hP
  have hD : va_D A [(od, .inr (1, [.int (nI n), .int (nI a), .int (nI (2 ^ n - 1 - a)), .ref og, .ref oy, .ref oz, .int (nI q), .int (nI d), .int (nI v), .ref ot])), (og, .inr (0, [.int (nI n), .int (nI a), .ref ob, .ref oe])), (ob, .inl (cI, (2 ^ n), .inl (fun jq => nI (Bq jq)))), (oe, .inl (cZ, (2 * 2 ^ n), .inl (fun jq => bI ((sd_ew n a (fun w => Bq w == 0)) jq)))), (oy, .inl (cI, 24, .inl (fun jq => nI (Y jq)))), (oz, .inl (cI, 24, .inl (fun jq => nI (Z jq)))), (ot, .inl (cI, n, .inl T))] := hD
  refine W.eq (g2 := F0 m 21 ls []) rfl ?_
  refine lv_aload_n hx hb dX1_leavesWinner_21 rfl (lv_at hl 1 rfl) ?_
  refine va_get (D := D) (ci := 1) (v := .ref og) (C := RX1) (T := TX1) (N := 10) hx hb ht inX1 hown hK hP 0 rfl rfl 3 (by decide) (ht _ wf_X1_game) (fun _ h9 => h9) rfl dX1_leavesWinner_22 ?_
  refine lv_iconst (v := nI 0) hx hb dX1_leavesWinner_25 (by decide) ?_
  refine lv_iconst (v := nI 0) hx hb dX1_leavesWinner_26 (by decide) ?_
  refine hw_callR (va_runV (b := og) (As := [.int (nI 0), .int (nI 0)]) (rest := []) ⟨hx, hb, hml, hown, ht⟩ (c_eveWinsAt l D cI cZ og ob oe n a 0 0 Bq (sd_ew n a (fun w => Bq w == 0)) hn (by omega) (by show 1 + 0 < _; omega)) (cwV 2 ht (gV wm_X1_X0_eveWinsAt wi_X0_eveWinsAt ws_X0_eveWinsAt wn_X0 wc_X0_eveWinsAt) rfl rfl rfl (by decide +kernel) ⟨Nat.le_of_ble_eq_true rfl, Nat.le_of_ble_eq_true rfl⟩) (rPre_V 0 (hP.sub [1, 2, 3] rfl) hK hN rfl rfl) rfl rfl hl.1 rfl (lv_room (Nat.le_of_ble_eq_true rfl)) dX1_leavesWinner_27 ⟨Nat.zero_le _, Nat.zero_le _⟩) ?_
  refine lv_nm (y := bI (sd_E n a (fun w => Bq w == 0) 0 0)) (congrArg bI (sd_ew_at (d := 0) (v := 0) (by decide))) ?_
  refine lv_istore hx hb dX1_leavesWinner_30 hl (by decide) rfl (fun ls hl => ?_)
  have hl : lv_has ls 6 [(5, .int (bI (sd_E n a (fun w => Bq w == 0) 0 0))), (4, .int (bI (sd_E n a (fun w => sd_br Y Z q w == 0) 0 0))), (0, .ref od), (1, .int (nI y)), (2, .int (nI z)), (3, .int st)] := hl
  refine lv_aload_n hx hb dX1_leavesWinner_32 rfl (lv_at hl 2 rfl) ?_
  refine va_get (D := D) (ci := 1) (v := .ref og) (C := RX1) (T := TX1) (N := 10) hx hb ht inX1 hown hK hP 0 rfl rfl 3 (by decide) (ht _ wf_X1_game) (fun _ h9 => h9) rfl dX1_leavesWinner_33 ?_
  refine lv_iload_n hx hb dX1_leavesWinner_36 rfl (lv_at hl 3 rfl) ?_
  refine lv_iload_n hx hb dX1_leavesWinner_37 rfl (lv_at hl 4 rfl) ?_
  refine lv_iload_n hx hb dX1_leavesWinner_38 rfl (lv_at hl 5 rfl) ?_
  refine lv_ineg hx hb dX1_leavesWinner_39 ?_
  refine hw_call (wc := [(og, .inr (0, [.int (nI n), .int (nI a), .ref ob, .ref oe])), (ob, .inl (cI, (2 ^ n), .inl (fun jq => nI (Bq jq)))), (oe, .inl (cZ, (2 * 2 ^ n), .inl (fun jq => bI ((sd_ew n a (fun w => Bq w == 0)) jq))))]) (wc' := [(og, .inr (0, [.int (nI n), .int (nI a), .ref ob, .ref oe])), (ob, .inl (cI, (2 ^ n), .inl (fun jq => nI ((sd_br Y Z q) jq)))), (oe, .inl (cZ, (2 * 2 ^ n), .inl (fun jq => bI ((sd_ew n a (fun w => sd_br Y Z q w == 0)) jq))))]) (wr := [(od, .inr (1, [.int (nI n), .int (nI a), .int (nI (2 ^ n - 1 - a)), .ref og, .ref oy, .ref oz, .int (nI q), .int (nI d), .int (nI v), .ref ot])), (oy, .inl (cI, 24, .inl (fun jq => nI (Y jq)))), (oz, .inl (cI, 24, .inl (fun jq => nI (Z jq)))), (ot, .inl (cI, n, .inl T))]) (ws' := [(od, .inr (1, [.int (nI n), .int (nI a), .int (nI (2 ^ n - 1 - a)), .ref og, .ref oy, .ref oz, .int (nI q), .int (nI d), .int (nI v), .ref ot])), (og, .inr (0, [.int (nI n), .int (nI a), .ref ob, .ref oe])), (ob, .inl (cI, (2 ^ n), .inl (fun jq => nI ((sd_br Y Z q) jq)))), (oe, .inl (cZ, (2 * 2 ^ n), .inl (fun jq => bI ((sd_ew n a (fun w => sd_br Y Z q w == 0)) jq)))), (oy, .inl (cI, 24, .inl (fun jq => nI (Y jq)))), (oz, .inl (cI, 24, .inl (fun jq => nI (Z jq)))), (ot, .inl (cI, n, .inl T))]) (va_runV (b := og) (As := [.int (nI y), .int (nI z), .int (-st)]) (rest := []) ⟨hx, hb, hml, hown, ht⟩ (c_change l D cI cZ og ob oe n a y z H.size (-st) Bq (sd_br Y Z q) (sd_ew n a (fun w => Bq w == 0)) hn1 hn ha hy hz hBq2 (fun u _ => sd_brl Y Z (by omega) u) hB2 rfl) (cwV 3 ht (gV wm_X1_X0_change wi_X0_change ws_X0_change wn_X0 wc_X0_change) rfl rfl rfl (by decide +kernel) ⟨Nat.le_of_ble_eq_true rfl, Nat.le_of_ble_eq_true rfl⟩) (wPre_V 0 (hP.sub [1, 2, 3] rfl) (hD.sub [1, 2, 3] (by decide) rfl) hK hN rfl rfl) rfl rfl hl.1 rfl (lv_room (Nat.le_of_ble_eq_true rfl)) dX1_leavesWinner_40 ⟨Nat.zero_le _, Nat.zero_le _⟩) hP hD hS hA [1, 2, 3] [0, 4, 5, 6] [0, 4, 5, 6, 1, 2, 3] rfl rfl (by decide) (by decide) (by decide) rfl rfl rfl (fun H locs hP hD hS => ?_)
  have hP : va_P D clS [(od, .inr (1, [.int (nI n), .int (nI a), .int (nI (2 ^ n - 1 - a)), .ref og, .ref oy, .ref oz, .int (nI q), .int (nI d), .int (nI v), .ref ot])), (og, .inr (0, [.int (nI n), .int (nI a), .ref ob, .ref oe])), (ob, .inl (cI, (2 ^ n), .inl (fun jq => nI ((sd_br Y Z q) jq)))), (oe, .inl (cZ, (2 * 2 ^ n), .inl (fun jq => bI ((sd_ew n a (fun w => sd_br Y Z q w == 0)) jq)))), (oy, .inl (cI, 24, .inl (fun jq => nI (Y jq)))), (oz, .inl (cI, 24, .inl (fun jq => nI (Z jq)))), (ot, .inl (cI, n, .inl T))] H := hP
  have hD : va_D A [(od, .inr (1, [.int (nI n), .int (nI a), .int (nI (2 ^ n - 1 - a)), .ref og, .ref oy, .ref oz, .int (nI q), .int (nI d), .int (nI v), .ref ot])), (og, .inr (0, [.int (nI n), .int (nI a), .ref ob, .ref oe])), (ob, .inl (cI, (2 ^ n), .inl (fun jq => nI ((sd_br Y Z q) jq)))), (oe, .inl (cZ, (2 * 2 ^ n), .inl (fun jq => bI ((sd_ew n a (fun w => sd_br Y Z q w == 0)) jq)))), (oy, .inl (cI, 24, .inl (fun jq => nI (Y jq)))), (oz, .inl (cI, 24, .inl (fun jq => nI (Z jq)))), (ot, .inl (cI, n, .inl T))] := hD
  refine W.eq (g2 := F0 m 43 ls []) rfl ?_
  refine lv_iload hx hb dX1_leavesWinner_43 (lv_at hl 1 rfl) ?_
  refine lv_iload hx hb dX1_leavesWinner_45 (lv_at hl 0 rfl) ?_
  suffices mk : W p l e (headSpec (kX1_leavesWinner :: aW) { frames := 4, cells := 0, slots := 0, locals := 93 }).room s m (([.ref od, .int (nI y), .int (nI z), .int st] : List Value).toArray) below meth c H locs 0 0 (MQ below (wQ (some (.int (bI (sd_E n a (fun w => sd_br Y Z q w == 0) 0 0 == sd_E n a (fun w => Bq w == 0) 0 0)))) D [(od, .inr (1, [.int (nI n), .int (nI a), .int (nI (2 ^ n - 1 - a)), .ref og, .ref oy, .ref oz, .int (nI q), .int (nI d), .int (nI v), .ref ot])), (og, .inr (0, [.int (nI n), .int (nI a), .ref ob, .ref oe])), (ob, .inl (cI, (2 ^ n), .inl (fun jq => nI ((sd_br Y Z q) jq)))), (oe, .inl (cZ, (2 * 2 ^ n), .inl (fun jq => bI ((sd_ew n a (fun w => sd_br Y Z q w == 0)) jq)))), (oy, .inl (cI, 24, .inl (fun jq => nI (Y jq)))), (oz, .inl (cI, 24, .inl (fun jq => nI (Z jq)))), (ot, .inl (cI, n, .inl T))] A) (([.ref od, .int (nI y), .int (nI z), .int st] : List Value).toArray) s 0 0 A) (F0 m 55 ls [.int (bI (sd_E n a (fun w => sd_br Y Z q w == 0) 0 0 == sd_E n a (fun w => Bq w == 0) 0 0))]) by
    refine lv_icmp_ne (tgt := 54) hx hb dX1_leavesWinner_47 rfl (fun h1 => ?_) (fun h1 => ?_)
    · have h1 : ¬ (sd_E n a (fun w => sd_br Y Z q w == 0) 0 0) = (sd_E n a (fun w => Bq w == 0) 0 0) := fun h9 => h1 ((bI_inj _ _).mpr h9)
      refine lv_iconst (v := nI 0) hx hb dX1_leavesWinner_54 (by decide) ?_
      refine lv_nm (y := bI (sd_E n a (fun w => sd_br Y Z q w == 0) 0 0 == sd_E n a (fun w => Bq w == 0) 0 0)) (hw_0.trans (congrArg bI (show false = (sd_E n a (fun w => sd_br Y Z q w == 0) 0 0 == sd_E n a (fun w => Bq w == 0) 0 0) by first | exact hw_bt h1 | exact hw_bf h1))) ?_
      exact mk
    · have h1 : (sd_E n a (fun w => sd_br Y Z q w == 0) 0 0) = (sd_E n a (fun w => Bq w == 0) 0 0) := (bI_inj _ _).mp h1
      refine lv_iconst (v := nI 1) hx hb dX1_leavesWinner_50 (by decide) ?_
      refine lv_goto (tgt := 55) hx hb dX1_leavesWinner_51 rfl ?_
      refine lv_nm (y := bI (sd_E n a (fun w => sd_br Y Z q w == 0) 0 0 == sd_E n a (fun w => Bq w == 0) 0 0)) (hw_1.trans (congrArg bI (show true = (sd_E n a (fun w => sd_br Y Z q w == 0) 0 0 == sd_E n a (fun w => Bq w == 0) 0 0) by first | exact hw_bt h1 | exact hw_bf h1))) ?_
      exact mk
  exact W.zret hx hb hr (bI_nar _) (fun t ht2 _ => ⟨hw_ret (rfl), by rw [ht2]; exact hP, hS.F ht2⟩) hS.2.2 dX1_leavesWinner_55

set_option maxHeartbeats 4000000 in
set_option maxRecDepth 100000 in
theorem c_idle (l : Launch) (D : va_G) (cI cZ : ClassId) (od og ob oe oy oz ot n a r d v : Nat) (Y Z : Nat → Nat) (T : Nat → Int32) (ok : dOk n a (r + 1) d v Y Z) (sz : Nat) (i : Nat) (hi : i < r + 1) : Met l yX1_idle (kX1_idle :: aW) { frames := 5, cells := 0, slots := 0, locals := 118 } (wPre [.ref od, .int (nI i)] D [(od, .inr (1, [.int (nI n), .int (nI a), .int (nI (2 ^ n - 1 - a)), .ref og, .ref oy, .ref oz, .int (nI (r + 1)), .int (nI d), .int (nI v), .ref ot])), (og, .inr (0, [.int (nI n), .int (nI a), .ref ob, .ref oe])), (ob, .inl (cI, (2 ^ n), .inl (fun jq => nI ((sd_br Y Z (r + 1)) jq)))), (oe, .inl (cZ, (2 * 2 ^ n), .inl (fun jq => bI ((sd_ew n a (fun w => sd_br Y Z (r + 1) w == 0)) jq)))), (oy, .inl (cI, 24, .inl (fun jq => nI (Y jq)))), (oz, .inl (cI, 24, .inl (fun jq => nI (Z jq)))), (ot, .inl (cI, n, .inl T))] [(cI, .int), (cZ, .boolean)] sz) (wQ (some (.int (bI (sd_E n a (fun w => sd_br Y Z (r + 1) w == 0) 0 0 == sd_E n a (fun w => sd_br (sd_sh Y i r) (sd_sh Z i r) r w == 0) 0 0)))) D [(od, .inr (1, [.int (nI n), .int (nI a), .int (nI (2 ^ n - 1 - a)), .ref og, .ref oy, .ref oz, .int (nI (r + 1)), .int (nI d), .int (nI v), .ref ot])), (og, .inr (0, [.int (nI n), .int (nI a), .ref ob, .ref oe])), (ob, .inl (cI, (2 ^ n), .inl (fun jq => nI ((sd_br Y Z (r + 1)) jq)))), (oe, .inl (cZ, (2 * 2 ^ n), .inl (fun jq => bI ((sd_ew n a (fun w => sd_br Y Z (r + 1) w == 0)) jq)))), (oy, .inl (cI, 24, .inl (fun jq => nI (Y jq)))), (oz, .inl (cI, 24, .inl (fun jq => nI (Z jq)))), (ot, .inl (cI, n, .inl T))] (va_A [(od, .inr (1, [.int (nI n), .int (nI a), .int (nI (2 ^ n - 1 - a)), .ref og, .ref oy, .ref oz, .int (nI (r + 1)), .int (nI d), .int (nI v), .ref ot])), (og, .inr (0, [.int (nI n), .int (nI a), .ref ob, .ref oe])), (ob, .inl (cI, (2 ^ n), .inl (fun jq => nI ((sd_br Y Z (r + 1)) jq)))), (oe, .inl (cZ, (2 * 2 ^ n), .inl (fun jq => bI ((sd_ew n a (fun w => sd_br Y Z (r + 1) w == 0)) jq)))), (oy, .inl (cI, 24, .inl (fun jq => nI (Y jq)))), (oz, .inl (cI, 24, .inl (fun jq => nI (Z jq)))), (ot, .inl (cI, n, .inl T))] sz)) 0 0 (va_A [(od, .inr (1, [.int (nI n), .int (nI a), .int (nI (2 ^ n - 1 - a)), .ref og, .ref oy, .ref oz, .int (nI (r + 1)), .int (nI d), .int (nI v), .ref ot])), (og, .inr (0, [.int (nI n), .int (nI a), .ref ob, .ref oe])), (ob, .inl (cI, (2 ^ n), .inl (fun jq => nI ((sd_br Y Z (r + 1)) jq)))), (oe, .inl (cZ, (2 * 2 ^ n), .inl (fun jq => bI ((sd_ew n a (fun w => sd_br Y Z (r + 1) w == 0)) jq)))), (oy, .inl (cI, 24, .inl (fun jq => nI (Y jq)))), (oz, .inl (cI, 24, .inl (fun jq => nI (Z jq)))), (ot, .inl (cI, n, .inl T))] sz) := by
  obtain ⟨hn1, hn, ha, h5, hq, hY, hZ, hd, hv⟩ := id ok
  have h2n := hw_p10 hn
  refine Met.ofW (cc := cX1_idle) (maxL := 2) (ret := (some .boolean)) (by decide) rfl ?_
  intro p e s m args below meth c s₁ Bo hml hpre
  obtain ⟨rfl, hsz, hP, hK, hN, hD0⟩ := hpre
  subst hsz
  have hD := hD0.self (sz := s.heap.size)
  generalize hAe : va_A [(od, .inr (1, [.int (nI n), .int (nI a), .int (nI (2 ^ n - 1 - a)), .ref og, .ref oy, .ref oz, .int (nI (r + 1)), .int (nI d), .int (nI v), .ref ot])), (og, .inr (0, [.int (nI n), .int (nI a), .ref ob, .ref oe])), (ob, .inl (cI, (2 ^ n), .inl (fun jq => nI ((sd_br Y Z (r + 1)) jq)))), (oe, .inl (cZ, (2 * 2 ^ n), .inl (fun jq => bI ((sd_ew n a (fun w => sd_br Y Z (r + 1) w == 0)) jq)))), (oy, .inl (cI, 24, .inl (fun jq => nI (Y jq)))), (oz, .inl (cI, 24, .inl (fun jq => nI (Z jq)))), (ot, .inl (cI, n, .inl T))] s.heap.size = A at hD ⊢
  have hA : ∀ q : Nat, s.heap.size ≤ q → A q := fun q h => by rw [← hAe]; exact Or.inr h
  have hS : va_S A s.heap s.heap [] := va_S.rf
  have hx := Bo.exec
  have hb := Bo.bytes
  have hr := Bo.returns
  have hts := atoms_spec (ws := kX1_idle :: aW) Bo.pre
  have ht : ∀ w ∈ aW, w.before _ s = true := fun w h => hts w (List.mem_cons_of_mem _ h)
  have hown : s.vm.findClass RX1 = some m.cls := findClass_of_methodNamed Bo.named
  have hlocks := Bo.notSynchronized
  have hP : va_P D clS [(od, .inr (1, [.int (nI n), .int (nI a), .int (nI (2 ^ n - 1 - a)), .ref og, .ref oy, .ref oz, .int (nI (r + 1)), .int (nI d), .int (nI v), .ref ot])), (og, .inr (0, [.int (nI n), .int (nI a), .ref ob, .ref oe])), (ob, .inl (cI, (2 ^ n), .inl (fun jq => nI ((sd_br Y Z (r + 1)) jq)))), (oe, .inl (cZ, (2 * 2 ^ n), .inl (fun jq => bI ((sd_ew n a (fun w => sd_br Y Z (r + 1) w == 0)) jq)))), (oy, .inl (cI, 24, .inl (fun jq => nI (Y jq)))), (oz, .inl (cI, 24, .inl (fun jq => nI (Z jq)))), (ot, .inl (cI, n, .inl T))] s.heap := hP
  have hl := lv_entry ([.ref od, .int (nI i)]) (n := 2) (Nat.le_of_ble_eq_true rfl)
  rw [lg_entry_eq]
  generalize (lg_sl ([.ref od, .int (nI i)]) ++ List.replicate (2 - (lg_sl ([.ref od, .int (nI i)])).length) Slot.unset).toArray = ls at hl ⊢
  have hl : lv_has ls 2 [(0, .ref od), (1, .int (nI i))] := hl
  refine lv_aload_n hx hb dX1_idle_0 rfl (lv_at hl 0 rfl) ?_
  refine lv_iload_n hx hb dX1_idle_1 rfl (lv_at hl 1 rfl) ?_
  refine hw_callR (va_runV (b := od) (As := [.int (nI i)]) (rest := []) ⟨hx, hb, hml, hown, ht⟩ (c_isClause l D cI cZ od og ob oe oy oz ot n a (r + 1) d v Y Z T ok (nI i)) (cwV 1 ht (gV wm_X1_X1_isClause wi_X1_isClause ws_X1_isClause wn_X1 wc_X1_isClause) rfl rfl rfl (by decide +kernel) ⟨Nat.le_of_ble_eq_true rfl, Nat.le_of_ble_eq_true rfl⟩) (rPre_V 0 hP hK hN rfl rfl) rfl rfl hl.1 rfl (lv_room (Nat.le_of_ble_eq_true rfl)) dX1_idle_2 ⟨Nat.zero_le _, Nat.zero_le _⟩) ?_
  refine lv_nm (y := bI true) (congrArg bI (decide_eq_true (by rw [uN_nI (by omega)]; exact hi))) ?_
  refine lv_if_eq (tgt := 32) hx hb dX1_idle_5 rfl (fun hc => absurd (show true = false from (bI_eq0 _).mp hc) (by decide)) (fun _ => ?_)
  refine lv_aload_n hx hb dX1_idle_8 rfl (lv_at hl 0 rfl) ?_
  refine lv_aload_n hx hb dX1_idle_9 rfl (lv_at hl 0 rfl) ?_
  refine va_get (D := D) (ci := 1) (v := .ref oy) (C := RX1) (T := TX1) (N := 10) hx hb ht inX1 hown hK hP 0 rfl rfl 4 (by decide) (ht _ wf_X1_yesSets) (fun _ h9 => h9) rfl dX1_idle_10 ?_
  refine lv_iload_n hx hb dX1_idle_13 rfl (lv_at hl 1 rfl) ?_
  refine na_nald (f := Y) hx hb hK hP 4 0 rfl rfl (j := i) (by omega) (by omega) dX1_idle_14 ?_
  refine lv_aload_n hx hb dX1_idle_15 rfl (lv_at hl 0 rfl) ?_
  refine va_get (D := D) (ci := 1) (v := .ref oz) (C := RX1) (T := TX1) (N := 10) hx hb ht inX1 hown hK hP 0 rfl rfl 5 (by decide) (ht _ wf_X1_noSets) (fun _ h9 => h9) rfl dX1_idle_16 ?_
  refine lv_iload_n hx hb dX1_idle_19 rfl (lv_at hl 1 rfl) ?_
  refine na_nald (f := Z) hx hb hK hP 5 0 rfl rfl (j := i) (by omega) (by omega) dX1_idle_20 ?_
  refine lv_iconst (v := (-1)) hx hb dX1_idle_21 (by decide) ?_
  refine hw_callW (ws' := [(od, .inr (1, [.int (nI n), .int (nI a), .int (nI (2 ^ n - 1 - a)), .ref og, .ref oy, .ref oz, .int (nI (r + 1)), .int (nI d), .int (nI v), .ref ot])), (og, .inr (0, [.int (nI n), .int (nI a), .ref ob, .ref oe])), (ob, .inl (cI, (2 ^ n), .inl (fun jq => nI ((sd_br Y Z (r + 1)) jq)))), (oe, .inl (cZ, (2 * 2 ^ n), .inl (fun jq => bI ((sd_ew n a (fun w => sd_br Y Z (r + 1) w == 0)) jq)))), (oy, .inl (cI, 24, .inl (fun jq => nI (Y jq)))), (oz, .inl (cI, 24, .inl (fun jq => nI (Z jq)))), (ot, .inl (cI, n, .inl T))]) (va_runV (b := od) (As := [.int (nI (Y i)), .int (nI (Z i)), .int (-1)]) (rest := []) ⟨hx, hb, hml, hown, ht⟩ (c_leavesWinner l D cI cZ od og ob oe oy oz ot n a (r + 1) d v Y Z T ok s.heap.size (Y i) (Z i) (-1) (sd_br (sd_sh Y i r) (sd_sh Z i r) r) (hY i) (hZ i) (fun u _ => sd_brl _ _ (by omega) u) (fun u _ => sd_out rfl (sd_br_sh Y Z u r (by omega))) (fun u _ => by rw [sd_br_sh Y Z (i := i) u r (by omega)]; exact sd_in (by decide))) (cwV 3 ht (gV wm_X1_X1_leavesWinner wi_X1_leavesWinner ws_X1_leavesWinner wn_X1 wc_X1_leavesWinner) rfl rfl rfl (by decide +kernel) ⟨Nat.le_of_ble_eq_true rfl, Nat.le_of_ble_eq_true rfl⟩) (wPre_V 0 hP hD hK hN rfl rfl) rfl rfl hl.1 rfl (lv_room (Nat.le_of_ble_eq_true rfl)) dX1_idle_22 ⟨Nat.zero_le _, Nat.zero_le _⟩) hD hS hA rfl (fun H locs hP hD hS => ?_)
  have hP : va_P D clS [(od, .inr (1, [.int (nI n), .int (nI a), .int (nI (2 ^ n - 1 - a)), .ref og, .ref oy, .ref oz, .int (nI (r + 1)), .int (nI d), .int (nI v), .ref ot])), (og, .inr (0, [.int (nI n), .int (nI a), .ref ob, .ref oe])), (ob, .inl (cI, (2 ^ n), .inl (fun jq => nI ((sd_br Y Z (r + 1)) jq)))), (oe, .inl (cZ, (2 * 2 ^ n), .inl (fun jq => bI ((sd_ew n a (fun w => sd_br Y Z (r + 1) w == 0)) jq)))), (oy, .inl (cI, 24, .inl (fun jq => nI (Y jq)))), (oz, .inl (cI, 24, .inl (fun jq => nI (Z jq)))), (ot, .inl (cI, n, .inl T))] H := hP
  have hD : va_D A [(od, .inr (1, [.int (nI n), .int (nI a), .int (nI (2 ^ n - 1 - a)), .ref og, .ref oy, .ref oz, .int (nI (r + 1)), .int (nI d), .int (nI v), .ref ot])), (og, .inr (0, [.int (nI n), .int (nI a), .ref ob, .ref oe])), (ob, .inl (cI, (2 ^ n), .inl (fun jq => nI ((sd_br Y Z (r + 1)) jq)))), (oe, .inl (cZ, (2 * 2 ^ n), .inl (fun jq => bI ((sd_ew n a (fun w => sd_br Y Z (r + 1) w == 0)) jq)))), (oy, .inl (cI, 24, .inl (fun jq => nI (Y jq)))), (oz, .inl (cI, 24, .inl (fun jq => nI (Z jq)))), (ot, .inl (cI, n, .inl T))] := hD
  refine W.eq (g2 := F0 m 25 ls [.int (bI (sd_E n a (fun w => sd_br Y Z (r + 1) w == 0) 0 0 == sd_E n a (fun w => sd_br (sd_sh Y i r) (sd_sh Z i r) r w == 0) 0 0))]) rfl ?_
  suffices mk : W p l e (headSpec (kX1_idle :: aW) { frames := 5, cells := 0, slots := 0, locals := 118 }).room s m (([.ref od, .int (nI i)] : List Value).toArray) below meth c H locs 0 0 (MQ below (wQ (some (.int (bI (sd_E n a (fun w => sd_br Y Z (r + 1) w == 0) 0 0 == sd_E n a (fun w => sd_br (sd_sh Y i r) (sd_sh Z i r) r w == 0) 0 0)))) D [(od, .inr (1, [.int (nI n), .int (nI a), .int (nI (2 ^ n - 1 - a)), .ref og, .ref oy, .ref oz, .int (nI (r + 1)), .int (nI d), .int (nI v), .ref ot])), (og, .inr (0, [.int (nI n), .int (nI a), .ref ob, .ref oe])), (ob, .inl (cI, (2 ^ n), .inl (fun jq => nI ((sd_br Y Z (r + 1)) jq)))), (oe, .inl (cZ, (2 * 2 ^ n), .inl (fun jq => bI ((sd_ew n a (fun w => sd_br Y Z (r + 1) w == 0)) jq)))), (oy, .inl (cI, 24, .inl (fun jq => nI (Y jq)))), (oz, .inl (cI, 24, .inl (fun jq => nI (Z jq)))), (ot, .inl (cI, n, .inl T))] A) (([.ref od, .int (nI i)] : List Value).toArray) s 0 0 A) (F0 m 33 ls [.int (bI (sd_E n a (fun w => sd_br Y Z (r + 1) w == 0) 0 0 == sd_E n a (fun w => sd_br (sd_sh Y i r) (sd_sh Z i r) r w == 0) 0 0))]) by
    refine lv_if_eq (tgt := 32) hx hb dX1_idle_25 rfl (fun h1 => ?_) (fun h1 => ?_)
    · have h1 : (sd_E n a (fun w => sd_br Y Z (r + 1) w == 0) 0 0 == sd_E n a (fun w => sd_br (sd_sh Y i r) (sd_sh Z i r) r w == 0) 0 0) = false := (bI_eq0 _).mp h1
      refine lv_iconst (v := nI 0) hx hb dX1_idle_32 (by decide) ?_
      refine lv_nm (y := bI (sd_E n a (fun w => sd_br Y Z (r + 1) w == 0) 0 0 == sd_E n a (fun w => sd_br (sd_sh Y i r) (sd_sh Z i r) r w == 0) 0 0)) (hw_0.trans (congrArg bI (show false = (sd_E n a (fun w => sd_br Y Z (r + 1) w == 0) 0 0 == sd_E n a (fun w => sd_br (sd_sh Y i r) (sd_sh Z i r) r w == 0) 0 0) by rw [h1]))) ?_
      exact mk
    · have h1 : (sd_E n a (fun w => sd_br Y Z (r + 1) w == 0) 0 0 == sd_E n a (fun w => sd_br (sd_sh Y i r) (sd_sh Z i r) r w == 0) 0 0) = true := bI_ne0 h1
      refine lv_iconst (v := nI 1) hx hb dX1_idle_28 (by decide) ?_
      refine lv_goto (tgt := 33) hx hb dX1_idle_29 rfl ?_
      refine lv_nm (y := bI (sd_E n a (fun w => sd_br Y Z (r + 1) w == 0) 0 0 == sd_E n a (fun w => sd_br (sd_sh Y i r) (sd_sh Z i r) r w == 0) 0 0)) (hw_1.trans (congrArg bI (show true = (sd_E n a (fun w => sd_br Y Z (r + 1) w == 0) 0 0 == sd_E n a (fun w => sd_br (sd_sh Y i r) (sd_sh Z i r) r w == 0) 0 0) by rw [h1]))) ?_
      exact mk
  exact W.zret hx hb hr (bI_nar _) (fun t ht2 _ => ⟨hw_ret (rfl), by rw [ht2]; exact hP, hS.F ht2⟩) hS.2.2 dX1_idle_33

set_option maxHeartbeats 4000000 in
set_option maxRecDepth 100000 in
theorem c_harmless_no (l : Launch) (D : va_G) (cI cZ : ClassId) (od og ob oe oy oz ot n a q d v : Nat) (Y Z : Nat → Nat) (T : Nat → Int32) (ok : dOk n a q d v Y Z) (y0 z0 : Int32) (hno : ¬ (uN y0 < 2 ^ n ∧ uN z0 < 2 ^ n)) : Met l yX1_harmless (kX1_harmless :: aW) { frames := 5, cells := 0, slots := 0, locals := 118 } (rPre [.ref od, .int y0, .int z0] D [(od, .inr (1, [.int (nI n), .int (nI a), .int (nI (2 ^ n - 1 - a)), .ref og, .ref oy, .ref oz, .int (nI q), .int (nI d), .int (nI v), .ref ot])), (og, .inr (0, [.int (nI n), .int (nI a), .ref ob, .ref oe])), (ob, .inl (cI, (2 ^ n), .inl (fun jq => nI ((sd_br Y Z q) jq)))), (oe, .inl (cZ, (2 * 2 ^ n), .inl (fun jq => bI ((sd_ew n a (fun w => sd_br Y Z q w == 0)) jq)))), (oy, .inl (cI, 24, .inl (fun jq => nI (Y jq)))), (oz, .inl (cI, 24, .inl (fun jq => nI (Z jq)))), (ot, .inl (cI, n, .inl T))] [(cI, .int), (cZ, .boolean)]) (QcRead (bI false)) 0 0 (fun _ => False) := by
  obtain ⟨hn1, hn, ha, h5, hq, hY, hZ, hd, hv⟩ := id ok
  have h2n := hw_p10 hn
  refine Met.ofW (cc := cX1_harmless) (maxL := 3) (ret := (some .boolean)) (by decide) rfl ?_
  intro p e s m args below meth c s₁ Bo hml hpre
  obtain ⟨rfl, hP, hK, hN⟩ := hpre
  have hx := Bo.exec
  have hb := Bo.bytes
  have hr := Bo.returns
  have hts := atoms_spec (ws := kX1_harmless :: aW) Bo.pre
  have ht : ∀ w ∈ aW, w.before _ s = true := fun w h => hts w (List.mem_cons_of_mem _ h)
  have hown : s.vm.findClass RX1 = some m.cls := findClass_of_methodNamed Bo.named
  have hlocks := Bo.notSynchronized
  have hP : va_P D clS [(od, .inr (1, [.int (nI n), .int (nI a), .int (nI (2 ^ n - 1 - a)), .ref og, .ref oy, .ref oz, .int (nI q), .int (nI d), .int (nI v), .ref ot])), (og, .inr (0, [.int (nI n), .int (nI a), .ref ob, .ref oe])), (ob, .inl (cI, (2 ^ n), .inl (fun jq => nI ((sd_br Y Z q) jq)))), (oe, .inl (cZ, (2 * 2 ^ n), .inl (fun jq => bI ((sd_ew n a (fun w => sd_br Y Z q w == 0)) jq)))), (oy, .inl (cI, 24, .inl (fun jq => nI (Y jq)))), (oz, .inl (cI, 24, .inl (fun jq => nI (Z jq)))), (ot, .inl (cI, n, .inl T))] s.heap := hP
  have hl := lv_entry ([.ref od, .int y0, .int z0]) (n := 3) (Nat.le_of_ble_eq_true rfl)
  rw [lg_entry_eq]
  generalize (lg_sl ([.ref od, .int y0, .int z0]) ++ List.replicate (3 - (lg_sl ([.ref od, .int y0, .int z0])).length) Slot.unset).toArray = ls at hl ⊢
  have hl : lv_has ls 3 [(0, .ref od), (1, .int y0), (2, .int z0)] := hl
  refine lv_aload_n hx hb dX1_harmless_0 rfl (lv_at hl 0 rfl) ?_
  refine lv_iload_n hx hb dX1_harmless_1 rfl (lv_at hl 1 rfl) ?_
  refine lv_iload_n hx hb dX1_harmless_2 rfl (lv_at hl 2 rfl) ?_
  refine hw_callR (va_runV (b := od) (As := [.int y0, .int z0]) (rest := []) ⟨hx, hb, hml, hown, ht⟩ (c_areSets l D cI cZ od og ob oe oy oz ot n a q d v Y Z T ok y0 z0) (cwV 2 ht (gV wm_X1_X1_areSets wi_X1_areSets ws_X1_areSets wn_X1 wc_X1_areSets) rfl rfl rfl (by decide +kernel) ⟨Nat.le_of_ble_eq_true rfl, Nat.le_of_ble_eq_true rfl⟩) (rPre_V 0 hP hK hN rfl rfl) rfl rfl hl.1 rfl (lv_room (Nat.le_of_ble_eq_true rfl)) dX1_harmless_3 ⟨Nat.zero_le _, Nat.zero_le _⟩) ?_
  refine lv_if_eq (tgt := 23) hx hb dX1_harmless_6 rfl (fun h1 => ?_) (fun h1 => ?_)
  · have h1 : (decide (uN y0 < 2 ^ n) && decide (uN z0 < 2 ^ n)) = false := (bI_eq0 _).mp h1
    refine lv_iconst (v := nI 0) hx hb dX1_harmless_23 (by decide) ?_
    exact W.zret hx hb hr rfl (fun t ht2 _ => ⟨hw_ret (rfl), ht2⟩) (fun _ h => by cases h) dX1_harmless_24
  · have h1 : (decide (uN y0 < 2 ^ n) && decide (uN z0 < 2 ^ n)) = true := bI_ne0 h1
    exact absurd (by simpa using h1) hno

set_option maxHeartbeats 4000000 in
set_option maxRecDepth 100000 in
theorem c_harmless (l : Launch) (D : va_G) (cI cZ : ClassId) (od og ob oe oy oz ot n a q d v : Nat) (Y Z : Nat → Nat) (T : Nat → Int32) (ok : dOk n a q d v Y Z) (sz : Nat) (y z : Nat) (hy : y < 2 ^ n) (hz : z < 2 ^ n) : Met l yX1_harmless (kX1_harmless :: aW) { frames := 5, cells := 0, slots := 0, locals := 118 } (wPre [.ref od, .int (nI y), .int (nI z)] D [(od, .inr (1, [.int (nI n), .int (nI a), .int (nI (2 ^ n - 1 - a)), .ref og, .ref oy, .ref oz, .int (nI q), .int (nI d), .int (nI v), .ref ot])), (og, .inr (0, [.int (nI n), .int (nI a), .ref ob, .ref oe])), (ob, .inl (cI, (2 ^ n), .inl (fun jq => nI ((sd_br Y Z q) jq)))), (oe, .inl (cZ, (2 * 2 ^ n), .inl (fun jq => bI ((sd_ew n a (fun w => sd_br Y Z q w == 0)) jq)))), (oy, .inl (cI, 24, .inl (fun jq => nI (Y jq)))), (oz, .inl (cI, 24, .inl (fun jq => nI (Z jq)))), (ot, .inl (cI, n, .inl T))] [(cI, .int), (cZ, .boolean)] sz) (wQ (some (.int (bI (sd_E n a (fun w => sd_br Y Z q w == 0) 0 0 == sd_E n a (fun w => sd_br (va_up Y q y) (va_up Z q z) (q + 1) w == 0) 0 0)))) D [(od, .inr (1, [.int (nI n), .int (nI a), .int (nI (2 ^ n - 1 - a)), .ref og, .ref oy, .ref oz, .int (nI q), .int (nI d), .int (nI v), .ref ot])), (og, .inr (0, [.int (nI n), .int (nI a), .ref ob, .ref oe])), (ob, .inl (cI, (2 ^ n), .inl (fun jq => nI ((sd_br Y Z q) jq)))), (oe, .inl (cZ, (2 * 2 ^ n), .inl (fun jq => bI ((sd_ew n a (fun w => sd_br Y Z q w == 0)) jq)))), (oy, .inl (cI, 24, .inl (fun jq => nI (Y jq)))), (oz, .inl (cI, 24, .inl (fun jq => nI (Z jq)))), (ot, .inl (cI, n, .inl T))] (va_A [(od, .inr (1, [.int (nI n), .int (nI a), .int (nI (2 ^ n - 1 - a)), .ref og, .ref oy, .ref oz, .int (nI q), .int (nI d), .int (nI v), .ref ot])), (og, .inr (0, [.int (nI n), .int (nI a), .ref ob, .ref oe])), (ob, .inl (cI, (2 ^ n), .inl (fun jq => nI ((sd_br Y Z q) jq)))), (oe, .inl (cZ, (2 * 2 ^ n), .inl (fun jq => bI ((sd_ew n a (fun w => sd_br Y Z q w == 0)) jq)))), (oy, .inl (cI, 24, .inl (fun jq => nI (Y jq)))), (oz, .inl (cI, 24, .inl (fun jq => nI (Z jq)))), (ot, .inl (cI, n, .inl T))] sz)) 0 0 (va_A [(od, .inr (1, [.int (nI n), .int (nI a), .int (nI (2 ^ n - 1 - a)), .ref og, .ref oy, .ref oz, .int (nI q), .int (nI d), .int (nI v), .ref ot])), (og, .inr (0, [.int (nI n), .int (nI a), .ref ob, .ref oe])), (ob, .inl (cI, (2 ^ n), .inl (fun jq => nI ((sd_br Y Z q) jq)))), (oe, .inl (cZ, (2 * 2 ^ n), .inl (fun jq => bI ((sd_ew n a (fun w => sd_br Y Z q w == 0)) jq)))), (oy, .inl (cI, 24, .inl (fun jq => nI (Y jq)))), (oz, .inl (cI, 24, .inl (fun jq => nI (Z jq)))), (ot, .inl (cI, n, .inl T))] sz) := by
  obtain ⟨hn1, hn, ha, h5, hq, hY, hZ, hd, hv⟩ := id ok
  have h2n := hw_p10 hn
  refine Met.ofW (cc := cX1_harmless) (maxL := 3) (ret := (some .boolean)) (by decide) rfl ?_
  intro p e s m args below meth c s₁ Bo hml hpre
  obtain ⟨rfl, hsz, hP, hK, hN, hD0⟩ := hpre
  subst hsz
  have hD := hD0.self (sz := s.heap.size)
  generalize hAe : va_A [(od, .inr (1, [.int (nI n), .int (nI a), .int (nI (2 ^ n - 1 - a)), .ref og, .ref oy, .ref oz, .int (nI q), .int (nI d), .int (nI v), .ref ot])), (og, .inr (0, [.int (nI n), .int (nI a), .ref ob, .ref oe])), (ob, .inl (cI, (2 ^ n), .inl (fun jq => nI ((sd_br Y Z q) jq)))), (oe, .inl (cZ, (2 * 2 ^ n), .inl (fun jq => bI ((sd_ew n a (fun w => sd_br Y Z q w == 0)) jq)))), (oy, .inl (cI, 24, .inl (fun jq => nI (Y jq)))), (oz, .inl (cI, 24, .inl (fun jq => nI (Z jq)))), (ot, .inl (cI, n, .inl T))] s.heap.size = A at hD ⊢
  have hA : ∀ q : Nat, s.heap.size ≤ q → A q := fun q h => by rw [← hAe]; exact Or.inr h
  have hS : va_S A s.heap s.heap [] := va_S.rf
  have hx := Bo.exec
  have hb := Bo.bytes
  have hr := Bo.returns
  have hts := atoms_spec (ws := kX1_harmless :: aW) Bo.pre
  have ht : ∀ w ∈ aW, w.before _ s = true := fun w h => hts w (List.mem_cons_of_mem _ h)
  have hown : s.vm.findClass RX1 = some m.cls := findClass_of_methodNamed Bo.named
  have hlocks := Bo.notSynchronized
  have hP : va_P D clS [(od, .inr (1, [.int (nI n), .int (nI a), .int (nI (2 ^ n - 1 - a)), .ref og, .ref oy, .ref oz, .int (nI q), .int (nI d), .int (nI v), .ref ot])), (og, .inr (0, [.int (nI n), .int (nI a), .ref ob, .ref oe])), (ob, .inl (cI, (2 ^ n), .inl (fun jq => nI ((sd_br Y Z q) jq)))), (oe, .inl (cZ, (2 * 2 ^ n), .inl (fun jq => bI ((sd_ew n a (fun w => sd_br Y Z q w == 0)) jq)))), (oy, .inl (cI, 24, .inl (fun jq => nI (Y jq)))), (oz, .inl (cI, 24, .inl (fun jq => nI (Z jq)))), (ot, .inl (cI, n, .inl T))] s.heap := hP
  have hl := lv_entry ([.ref od, .int (nI y), .int (nI z)]) (n := 3) (Nat.le_of_ble_eq_true rfl)
  rw [lg_entry_eq]
  generalize (lg_sl ([.ref od, .int (nI y), .int (nI z)]) ++ List.replicate (3 - (lg_sl ([.ref od, .int (nI y), .int (nI z)])).length) Slot.unset).toArray = ls at hl ⊢
  have hl : lv_has ls 3 [(0, .ref od), (1, .int (nI y)), (2, .int (nI z))] := hl
  refine lv_aload_n hx hb dX1_harmless_0 rfl (lv_at hl 0 rfl) ?_
  refine lv_iload_n hx hb dX1_harmless_1 rfl (lv_at hl 1 rfl) ?_
  refine lv_iload_n hx hb dX1_harmless_2 rfl (lv_at hl 2 rfl) ?_
  refine hw_callR (va_runV (b := od) (As := [.int (nI y), .int (nI z)]) (rest := []) ⟨hx, hb, hml, hown, ht⟩ (c_areSets l D cI cZ od og ob oe oy oz ot n a q d v Y Z T ok (nI y) (nI z)) (cwV 2 ht (gV wm_X1_X1_areSets wi_X1_areSets ws_X1_areSets wn_X1 wc_X1_areSets) rfl rfl rfl (by decide +kernel) ⟨Nat.le_of_ble_eq_true rfl, Nat.le_of_ble_eq_true rfl⟩) (rPre_V 0 hP hK hN rfl rfl) rfl rfl hl.1 rfl (lv_room (Nat.le_of_ble_eq_true rfl)) dX1_harmless_3 ⟨Nat.zero_le _, Nat.zero_le _⟩) ?_
  refine lv_nm (y := bI true) (congrArg bI (by rw [uN_nI (by omega), uN_nI (by omega), decide_eq_true hy, decide_eq_true hz]; rfl)) ?_
  refine lv_if_eq (tgt := 23) hx hb dX1_harmless_6 rfl (fun hc => absurd (show true = false from (bI_eq0 _).mp hc) (by decide)) (fun _ => ?_)
  refine lv_aload_n hx hb dX1_harmless_9 rfl (lv_at hl 0 rfl) ?_
  refine lv_iload_n hx hb dX1_harmless_10 rfl (lv_at hl 1 rfl) ?_
  refine lv_iload_n hx hb dX1_harmless_11 rfl (lv_at hl 2 rfl) ?_
  refine lv_iconst (v := nI 1) hx hb dX1_harmless_12 (by decide) ?_
  refine hw_callW (ws' := [(od, .inr (1, [.int (nI n), .int (nI a), .int (nI (2 ^ n - 1 - a)), .ref og, .ref oy, .ref oz, .int (nI q), .int (nI d), .int (nI v), .ref ot])), (og, .inr (0, [.int (nI n), .int (nI a), .ref ob, .ref oe])), (ob, .inl (cI, (2 ^ n), .inl (fun jq => nI ((sd_br Y Z q) jq)))), (oe, .inl (cZ, (2 * 2 ^ n), .inl (fun jq => bI ((sd_ew n a (fun w => sd_br Y Z q w == 0)) jq)))), (oy, .inl (cI, 24, .inl (fun jq => nI (Y jq)))), (oz, .inl (cI, 24, .inl (fun jq => nI (Z jq)))), (ot, .inl (cI, n, .inl T))]) (va_runV (b := od) (As := [.int (nI y), .int (nI z), .int (nI 1)]) (rest := []) ⟨hx, hb, hml, hown, ht⟩ (c_leavesWinner l D cI cZ od og ob oe oy oz ot n a q d v Y Z T ok s.heap.size y z (nI 1) (sd_br (va_up Y q y) (va_up Z q z) (q + 1)) hy hz (fun u _ => sd_brl _ _ (by omega) u) (fun u _ => by rw [sd_br_up]; exact sd_in rfl) (fun u _ => sd_out (by decide) (sd_br_up Y Z q y z u))) (cwV 3 ht (gV wm_X1_X1_leavesWinner wi_X1_leavesWinner ws_X1_leavesWinner wn_X1 wc_X1_leavesWinner) rfl rfl rfl (by decide +kernel) ⟨Nat.le_of_ble_eq_true rfl, Nat.le_of_ble_eq_true rfl⟩) (wPre_V 0 hP hD hK hN rfl rfl) rfl rfl hl.1 rfl (lv_room (Nat.le_of_ble_eq_true rfl)) dX1_harmless_13 ⟨Nat.zero_le _, Nat.zero_le _⟩) hD hS hA rfl (fun H locs hP hD hS => ?_)
  have hP : va_P D clS [(od, .inr (1, [.int (nI n), .int (nI a), .int (nI (2 ^ n - 1 - a)), .ref og, .ref oy, .ref oz, .int (nI q), .int (nI d), .int (nI v), .ref ot])), (og, .inr (0, [.int (nI n), .int (nI a), .ref ob, .ref oe])), (ob, .inl (cI, (2 ^ n), .inl (fun jq => nI ((sd_br Y Z q) jq)))), (oe, .inl (cZ, (2 * 2 ^ n), .inl (fun jq => bI ((sd_ew n a (fun w => sd_br Y Z q w == 0)) jq)))), (oy, .inl (cI, 24, .inl (fun jq => nI (Y jq)))), (oz, .inl (cI, 24, .inl (fun jq => nI (Z jq)))), (ot, .inl (cI, n, .inl T))] H := hP
  have hD : va_D A [(od, .inr (1, [.int (nI n), .int (nI a), .int (nI (2 ^ n - 1 - a)), .ref og, .ref oy, .ref oz, .int (nI q), .int (nI d), .int (nI v), .ref ot])), (og, .inr (0, [.int (nI n), .int (nI a), .ref ob, .ref oe])), (ob, .inl (cI, (2 ^ n), .inl (fun jq => nI ((sd_br Y Z q) jq)))), (oe, .inl (cZ, (2 * 2 ^ n), .inl (fun jq => bI ((sd_ew n a (fun w => sd_br Y Z q w == 0)) jq)))), (oy, .inl (cI, 24, .inl (fun jq => nI (Y jq)))), (oz, .inl (cI, 24, .inl (fun jq => nI (Z jq)))), (ot, .inl (cI, n, .inl T))] := hD
  refine W.eq (g2 := F0 m 16 ls [.int (bI (sd_E n a (fun w => sd_br Y Z q w == 0) 0 0 == sd_E n a (fun w => sd_br (va_up Y q y) (va_up Z q z) (q + 1) w == 0) 0 0))]) rfl ?_
  suffices mk : W p l e (headSpec (kX1_harmless :: aW) { frames := 5, cells := 0, slots := 0, locals := 118 }).room s m (([.ref od, .int (nI y), .int (nI z)] : List Value).toArray) below meth c H locs 0 0 (MQ below (wQ (some (.int (bI (sd_E n a (fun w => sd_br Y Z q w == 0) 0 0 == sd_E n a (fun w => sd_br (va_up Y q y) (va_up Z q z) (q + 1) w == 0) 0 0)))) D [(od, .inr (1, [.int (nI n), .int (nI a), .int (nI (2 ^ n - 1 - a)), .ref og, .ref oy, .ref oz, .int (nI q), .int (nI d), .int (nI v), .ref ot])), (og, .inr (0, [.int (nI n), .int (nI a), .ref ob, .ref oe])), (ob, .inl (cI, (2 ^ n), .inl (fun jq => nI ((sd_br Y Z q) jq)))), (oe, .inl (cZ, (2 * 2 ^ n), .inl (fun jq => bI ((sd_ew n a (fun w => sd_br Y Z q w == 0)) jq)))), (oy, .inl (cI, 24, .inl (fun jq => nI (Y jq)))), (oz, .inl (cI, 24, .inl (fun jq => nI (Z jq)))), (ot, .inl (cI, n, .inl T))] A) (([.ref od, .int (nI y), .int (nI z)] : List Value).toArray) s 0 0 A) (F0 m 24 ls [.int (bI (sd_E n a (fun w => sd_br Y Z q w == 0) 0 0 == sd_E n a (fun w => sd_br (va_up Y q y) (va_up Z q z) (q + 1) w == 0) 0 0))]) by
    refine lv_if_eq (tgt := 23) hx hb dX1_harmless_16 rfl (fun h1 => ?_) (fun h1 => ?_)
    · have h1 : (sd_E n a (fun w => sd_br Y Z q w == 0) 0 0 == sd_E n a (fun w => sd_br (va_up Y q y) (va_up Z q z) (q + 1) w == 0) 0 0) = false := (bI_eq0 _).mp h1
      refine lv_iconst (v := nI 0) hx hb dX1_harmless_23 (by decide) ?_
      refine lv_nm (y := bI (sd_E n a (fun w => sd_br Y Z q w == 0) 0 0 == sd_E n a (fun w => sd_br (va_up Y q y) (va_up Z q z) (q + 1) w == 0) 0 0)) (hw_0.trans (congrArg bI (show false = (sd_E n a (fun w => sd_br Y Z q w == 0) 0 0 == sd_E n a (fun w => sd_br (va_up Y q y) (va_up Z q z) (q + 1) w == 0) 0 0) by rw [h1]))) ?_
      exact mk
    · have h1 : (sd_E n a (fun w => sd_br Y Z q w == 0) 0 0 == sd_E n a (fun w => sd_br (va_up Y q y) (va_up Z q z) (q + 1) w == 0) 0 0) = true := bI_ne0 h1
      refine lv_iconst (v := nI 1) hx hb dX1_harmless_19 (by decide) ?_
      refine lv_goto (tgt := 24) hx hb dX1_harmless_20 rfl ?_
      refine lv_nm (y := bI (sd_E n a (fun w => sd_br Y Z q w == 0) 0 0 == sd_E n a (fun w => sd_br (va_up Y q y) (va_up Z q z) (q + 1) w == 0) 0 0)) (hw_1.trans (congrArg bI (show true = (sd_E n a (fun w => sd_br Y Z q w == 0) 0 0 == sd_E n a (fun w => sd_br (va_up Y q y) (va_up Z q z) (q + 1) w == 0) 0 0) by rw [h1]))) ?_
      exact mk
  exact W.zret hx hb hr (bI_nar _) (fun t ht2 _ => ⟨hw_ret (rfl), by rw [ht2]; exact hP, hS.F ht2⟩) hS.2.2 dX1_harmless_24
end
section
/-! Contracts of StrategyDesk: claimValues, learn. -/
/-- the tables after i variables of claimValues -/
def sd_cv (a : Nat) (T : Nat → Int32) (sm vl i : Nat) : Nat → Int32 := fun j => if j < i ∧ a.testBit j = false then T j ||| nI ((vl.testBit j).toNat * 2 ^ (sm % 2 ^ sd_ct a j)) else T j
theorem sd_cv_0 (a : Nat) (T : Nat → Int32) (sm vl j : Nat) : T j = sd_cv a T sm vl 0 j := (if_neg (by omega)).symm
theorem sd_cv_a {a i : Nat} {T : Nat → Int32} {sm vl : Nat} (h : a.testBit i = true) (j : Nat) : sd_cv a T sm vl i j = sd_cv a T sm vl (i + 1) j := by
  unfold sd_cv
  by_cases hj : j = i
  · subst hj
    rw [if_neg (by omega), if_neg (by rw [h]; simp)]
  · by_cases h2 : j < i ∧ a.testBit j = false
    · rw [if_pos h2, if_pos ⟨by omega, h2.2⟩]
    · rw [if_neg h2, if_neg (fun h3 => h2 ⟨by omega, h3.2⟩)]
theorem sd_cv_e {a i : Nat} {T : Nat → Int32} {sm vl : Nat} (h : a.testBit i = false) (j : Nat) : upd (sd_cv a T sm vl i) i (sd_cv a T sm vl i i ||| nI ((vl.testBit i).toNat * 2 ^ (sm % 2 ^ sd_ct a i))) j = sd_cv a T sm vl (i + 1) j := by
  by_cases hj : j = i
  · subst hj
    rw [pk_us]
    unfold sd_cv
    rw [if_neg (by omega), if_pos ⟨by omega, h⟩]
  · rw [pk_un hj]
    unfold sd_cv
    by_cases h2 : j < i ∧ a.testBit j = false
    · rw [if_pos h2, if_pos ⟨by omega, h2.2⟩]
    · rw [if_neg h2, if_neg (fun h3 => h2 ⟨by omega, h3.2⟩)]
/-- the tables after s sums of learn -/
def sd_Ts (n a : Nat) (S : Nat → Bool) (T : Nat → Int32) (s : Nat) : Nat → Int32 := fun j => if j < n then (if a.testBit j = true then 0 else nI (sd_ob (sd_lb n a S j) (min s (2 ^ sd_ct a j)))) else T j
theorem sd_Ts_end {n a : Nat} (S : Nat → Bool) (T : Nat → Int32) (j : Nat) : sd_Ts n a S T (2 ^ sd_ct a n) j = sd_T n a S T j := by
  unfold sd_Ts sd_T sd_lt
  by_cases hj : j < n
  · have h1 : 2 ^ sd_ct a j ≤ 2 ^ sd_ct a n := Nat.pow_le_pow_right (by decide) (sd_ct_mono a (by omega))
    rw [Nat.min_eq_right h1]
  · rw [if_neg hj, if_neg hj]
/-- what a best line gives at v depends on the sum of what stands before v -/
theorem sd_L_tb {n a : Nat} {S : Nat → Bool} {s v : Nat} (hv : v < n) (h : a.testBit v = false) : (sd_ac (sd_li a (sd_bm n a S) s) n).testBit v = sd_lb n a S v (s % 2 ^ sd_ct a v) := by
  rw [sd_ac_tb _ n hv, sd_li_e h]
  unfold sd_lb
  rw [sd_li_cg (s := s % 2 ^ sd_ct a v) (t := s) (Nat.mod_mod _ _)]
theorem sd_Ts_s {n a : Nat} {S : Nat → Bool} {T : Nat → Int32} {s j : Nat} (hj : j < n) : sd_cv a (sd_Ts n a S T s) s (sd_ac (sd_li a (sd_bm n a S) s) n) n j = sd_Ts n a S T (s + 1) j := by
  by_cases h : a.testBit j = true
  · have e1 : sd_cv a (sd_Ts n a S T s) s (sd_ac (sd_li a (sd_bm n a S) s) n) n j = sd_Ts n a S T s j := if_neg (by rw [h]; simp)
    rw [e1]
    unfold sd_Ts
    rw [if_pos hj, if_pos h, if_pos hj, if_pos h]
  · have h : a.testBit j = false := by simpa using h
    have e1 : sd_cv a (sd_Ts n a S T s) s (sd_ac (sd_li a (sd_bm n a S) s) n) n j = sd_Ts n a S T s j ||| nI (((sd_ac (sd_li a (sd_bm n a S) s) n).testBit j).toNat * 2 ^ (s % 2 ^ sd_ct a j)) := if_pos ⟨hj, h⟩
    rw [e1, sd_L_tb hj h]
    unfold sd_Ts
    rw [if_pos hj, if_neg (by rw [h]; decide), if_pos hj, if_neg (by rw [h]; decide), hw_or]
    apply congrArg nI
    by_cases hs : s < 2 ^ sd_ct a j
    · rw [Nat.mod_eq_of_lt hs, Nat.min_eq_left (by omega), Nat.min_eq_left (by omega)]
      exact sd_ob_or _ s
    · rw [Nat.min_eq_right (by omega), Nat.min_eq_right (by omega)]
      exact sd_ob_in _ (Nat.mod_lt _ (Nat.two_pow_pos _))
theorem sd_vb_li {n a : Nat} {S : Nat → Bool} {s : Nat} (ha : a < 2 ^ n) : sd_ac (sd_vb n a S (2 ^ n - 1 - a) (sd_ac (sd_li a (fun _ _ => false) s) n)) n = sd_ac (sd_li a (sd_bm n a S) s) n := by
  apply sd_ac_cg
  intro d hd
  unfold sd_vb
  rw [sd_ev ha hd, sd_ac_tb _ n hd]
  by_cases h : a.testBit d = true
  · rw [sd_li_a h, sd_li_a h, h]
    rfl
  · have h : a.testBit d = false := by simpa using h
    rw [sd_li_e h, sd_li_e h, h]
    rfl
theorem sd_Ts_0 {n a : Nat} {S : Nat → Bool} {T : Nat → Int32} {j : Nat} (hj : j < n) : sd_Ts n a S T 0 j = 0 := by
  unfold sd_Ts
  rw [if_pos hj, Nat.zero_min]
  by_cases h : a.testBit j = true
  · rw [if_pos h]
  · rw [if_neg h]
    rfl

set_option maxHeartbeats 4000000 in
set_option maxRecDepth 100000 in
theorem c_claimValues (l : Launch) (D : va_G) (cI cZ : ClassId) (od og ob oe oy oz ot n a q d v : Nat) (Y Z : Nat → Nat) (T : Nat → Int32) (ok : dOk n a q d v Y Z) (sz : Nat) (sm vl : Nat) (hsm : sm < 32) (hvl : vl < 2 ^ n) : Met l yX1_claimValues (kX1_claimValues :: aW) { frames := 3, cells := 0, slots := 0, locals := 63 } (wPre [.ref od, .int (nI sm), .int (nI vl)] D [(od, .inr (1, [.int (nI n), .int (nI a), .int (nI (2 ^ n - 1 - a)), .ref og, .ref oy, .ref oz, .int (nI q), .int (nI d), .int (nI v), .ref ot])), (og, .inr (0, [.int (nI n), .int (nI a), .ref ob, .ref oe])), (ob, .inl (cI, (2 ^ n), .inl (fun jq => nI ((sd_br Y Z q) jq)))), (oe, .inl (cZ, (2 * 2 ^ n), .inl (fun jq => bI ((sd_ew n a (fun w => sd_br Y Z q w == 0)) jq)))), (oy, .inl (cI, 24, .inl (fun jq => nI (Y jq)))), (oz, .inl (cI, 24, .inl (fun jq => nI (Z jq)))), (ot, .inl (cI, n, .inl T))] [(cI, .int), (cZ, .boolean)] sz) (wQ none D [(od, .inr (1, [.int (nI n), .int (nI a), .int (nI (2 ^ n - 1 - a)), .ref og, .ref oy, .ref oz, .int (nI q), .int (nI d), .int (nI v), .ref ot])), (og, .inr (0, [.int (nI n), .int (nI a), .ref ob, .ref oe])), (ob, .inl (cI, (2 ^ n), .inl (fun jq => nI ((sd_br Y Z q) jq)))), (oe, .inl (cZ, (2 * 2 ^ n), .inl (fun jq => bI ((sd_ew n a (fun w => sd_br Y Z q w == 0)) jq)))), (oy, .inl (cI, 24, .inl (fun jq => nI (Y jq)))), (oz, .inl (cI, 24, .inl (fun jq => nI (Z jq)))), (ot, .inl (cI, n, .inl (sd_cv a T sm vl n)))] (va_A [(od, .inr (1, [.int (nI n), .int (nI a), .int (nI (2 ^ n - 1 - a)), .ref og, .ref oy, .ref oz, .int (nI q), .int (nI d), .int (nI v), .ref ot])), (og, .inr (0, [.int (nI n), .int (nI a), .ref ob, .ref oe])), (ob, .inl (cI, (2 ^ n), .inl (fun jq => nI ((sd_br Y Z q) jq)))), (oe, .inl (cZ, (2 * 2 ^ n), .inl (fun jq => bI ((sd_ew n a (fun w => sd_br Y Z q w == 0)) jq)))), (oy, .inl (cI, 24, .inl (fun jq => nI (Y jq)))), (oz, .inl (cI, 24, .inl (fun jq => nI (Z jq)))), (ot, .inl (cI, n, .inl T))] sz)) 0 0 (va_A [(od, .inr (1, [.int (nI n), .int (nI a), .int (nI (2 ^ n - 1 - a)), .ref og, .ref oy, .ref oz, .int (nI q), .int (nI d), .int (nI v), .ref ot])), (og, .inr (0, [.int (nI n), .int (nI a), .ref ob, .ref oe])), (ob, .inl (cI, (2 ^ n), .inl (fun jq => nI ((sd_br Y Z q) jq)))), (oe, .inl (cZ, (2 * 2 ^ n), .inl (fun jq => bI ((sd_ew n a (fun w => sd_br Y Z q w == 0)) jq)))), (oy, .inl (cI, 24, .inl (fun jq => nI (Y jq)))), (oz, .inl (cI, 24, .inl (fun jq => nI (Z jq)))), (ot, .inl (cI, n, .inl T))] sz) := by
  obtain ⟨hn1, hn, ha, h5, hq, hY, hZ, hd, hv⟩ := id ok
  have h2n := hw_p10 hn
  refine Met.ofW (cc := cX1_claimValues) (maxL := 4) (ret := none) (by decide) rfl ?_
  intro p e s m args below meth c s₁ Bo hml hpre
  obtain ⟨rfl, hsz, hP, hK, hN, hD0⟩ := hpre
  subst hsz
  have hD := hD0.self (sz := s.heap.size)
  generalize hAe : va_A [(od, .inr (1, [.int (nI n), .int (nI a), .int (nI (2 ^ n - 1 - a)), .ref og, .ref oy, .ref oz, .int (nI q), .int (nI d), .int (nI v), .ref ot])), (og, .inr (0, [.int (nI n), .int (nI a), .ref ob, .ref oe])), (ob, .inl (cI, (2 ^ n), .inl (fun jq => nI ((sd_br Y Z q) jq)))), (oe, .inl (cZ, (2 * 2 ^ n), .inl (fun jq => bI ((sd_ew n a (fun w => sd_br Y Z q w == 0)) jq)))), (oy, .inl (cI, 24, .inl (fun jq => nI (Y jq)))), (oz, .inl (cI, 24, .inl (fun jq => nI (Z jq)))), (ot, .inl (cI, n, .inl T))] s.heap.size = A at hD ⊢
  have hA : ∀ q : Nat, s.heap.size ≤ q → A q := fun q h => by rw [← hAe]; exact Or.inr h
  have hS : va_S A s.heap s.heap [] := va_S.rf
  have hx := Bo.exec
  have hb := Bo.bytes
  have hr := Bo.returns
  have hts := atoms_spec (ws := kX1_claimValues :: aW) Bo.pre
  have ht : ∀ w ∈ aW, w.before _ s = true := fun w h => hts w (List.mem_cons_of_mem _ h)
  have hown : s.vm.findClass RX1 = some m.cls := findClass_of_methodNamed Bo.named
  have hlocks := Bo.notSynchronized
  have hP : va_P D clS [(od, .inr (1, [.int (nI n), .int (nI a), .int (nI (2 ^ n - 1 - a)), .ref og, .ref oy, .ref oz, .int (nI q), .int (nI d), .int (nI v), .ref ot])), (og, .inr (0, [.int (nI n), .int (nI a), .ref ob, .ref oe])), (ob, .inl (cI, (2 ^ n), .inl (fun jq => nI ((sd_br Y Z q) jq)))), (oe, .inl (cZ, (2 * 2 ^ n), .inl (fun jq => bI ((sd_ew n a (fun w => sd_br Y Z q w == 0)) jq)))), (oy, .inl (cI, 24, .inl (fun jq => nI (Y jq)))), (oz, .inl (cI, 24, .inl (fun jq => nI (Z jq)))), (ot, .inl (cI, n, .inl T))] s.heap := hP
  have hl := lv_entry ([.ref od, .int (nI sm), .int (nI vl)]) (n := 4) (Nat.le_of_ble_eq_true rfl)
  rw [lg_entry_eq]
  generalize (lg_sl ([.ref od, .int (nI sm), .int (nI vl)]) ++ List.replicate (4 - (lg_sl ([.ref od, .int (nI sm), .int (nI vl)])).length) Slot.unset).toArray = ls at hl ⊢
  have hl : lv_has ls 4 [(0, .ref od), (1, .int (nI sm)), (2, .int (nI vl))] := hl
  refine lv_iconst (v := nI 0) hx hb dX1_claimValues_0 (by decide) ?_
  refine lv_istore_n hx hb dX1_claimValues_1 rfl hl (by decide) rfl (fun ls hl => ?_)
  have hl : lv_has ls 4 [(3, .int (nI 0)), (0, .ref od), (1, .int (nI sm)), (2, .int (nI vl))] := hl
  have hl : lv_has ls 4 [(0, .ref od), (1, .int (nI sm)), (2, .int (nI vl)), (3, .int (nI 0))] := lv_sub hl [1, 2, 3, 0] rfl
  have hP : va_P D clS [(od, .inr (1, [.int (nI n), .int (nI a), .int (nI (2 ^ n - 1 - a)), .ref og, .ref oy, .ref oz, .int (nI q), .int (nI d), .int (nI v), .ref ot])), (og, .inr (0, [.int (nI n), .int (nI a), .ref ob, .ref oe])), (ob, .inl (cI, (2 ^ n), .inl (fun jq => nI ((sd_br Y Z q) jq)))), (oe, .inl (cZ, (2 * 2 ^ n), .inl (fun jq => bI ((sd_ew n a (fun w => sd_br Y Z q w == 0)) jq)))), (oy, .inl (cI, 24, .inl (fun jq => nI (Y jq)))), (oz, .inl (cI, 24, .inl (fun jq => nI (Z jq)))), (ot, .inl (cI, n, .inl (sd_cv a T sm vl 0)))] s.heap := hw_cg hP (sd_cv a T sm vl 0) (q0 := 6) rfl (fun j _ => sd_cv_0 a T sm vl j) rfl
  have hD : va_D A [(od, .inr (1, [.int (nI n), .int (nI a), .int (nI (2 ^ n - 1 - a)), .ref og, .ref oy, .ref oz, .int (nI q), .int (nI d), .int (nI v), .ref ot])), (og, .inr (0, [.int (nI n), .int (nI a), .ref ob, .ref oe])), (ob, .inl (cI, (2 ^ n), .inl (fun jq => nI ((sd_br Y Z q) jq)))), (oe, .inl (cZ, (2 * 2 ^ n), .inl (fun jq => bI ((sd_ew n a (fun w => sd_br Y Z q w == 0)) jq)))), (oy, .inl (cI, 24, .inl (fun jq => nI (Y jq)))), (oz, .inl (cI, 24, .inl (fun jq => nI (Z jq)))), (ot, .inl (cI, n, .inl (sd_cv a T sm vl 0)))] := hw_ad hD rfl
  suffices lp : ∀ k : Nat, ∀ (i : Nat) (ls : Array Slot) (H : Heap) (locs : List Loc), (i + k = n) → lv_has ls 4 [(0, .ref od), (1, .int (nI sm)), (2, .int (nI vl)), (3, .int (nI i))] → va_P D clS [(od, .inr (1, [.int (nI n), .int (nI a), .int (nI (2 ^ n - 1 - a)), .ref og, .ref oy, .ref oz, .int (nI q), .int (nI d), .int (nI v), .ref ot])), (og, .inr (0, [.int (nI n), .int (nI a), .ref ob, .ref oe])), (ob, .inl (cI, (2 ^ n), .inl (fun jq => nI ((sd_br Y Z q) jq)))), (oe, .inl (cZ, (2 * 2 ^ n), .inl (fun jq => bI ((sd_ew n a (fun w => sd_br Y Z q w == 0)) jq)))), (oy, .inl (cI, 24, .inl (fun jq => nI (Y jq)))), (oz, .inl (cI, 24, .inl (fun jq => nI (Z jq)))), (ot, .inl (cI, n, .inl (sd_cv a T sm vl i)))] H → va_S A s.heap H locs → W p l e (headSpec (kX1_claimValues :: aW) { frames := 3, cells := 0, slots := 0, locals := 63 }).room s m (([.ref od, .int (nI sm), .int (nI vl)] : List Value).toArray) below meth c H locs 0 0 (MQ below (wQ none D [(od, .inr (1, [.int (nI n), .int (nI a), .int (nI (2 ^ n - 1 - a)), .ref og, .ref oy, .ref oz, .int (nI q), .int (nI d), .int (nI v), .ref ot])), (og, .inr (0, [.int (nI n), .int (nI a), .ref ob, .ref oe])), (ob, .inl (cI, (2 ^ n), .inl (fun jq => nI ((sd_br Y Z q) jq)))), (oe, .inl (cZ, (2 * 2 ^ n), .inl (fun jq => bI ((sd_ew n a (fun w => sd_br Y Z q w == 0)) jq)))), (oy, .inl (cI, 24, .inl (fun jq => nI (Y jq)))), (oz, .inl (cI, 24, .inl (fun jq => nI (Z jq)))), (ot, .inl (cI, n, .inl (sd_cv a T sm vl n)))] A) (([.ref od, .int (nI sm), .int (nI vl)] : List Value).toArray) s 0 0 A) (F0 m 2 ls []) by
    exact lp n 0 ls s.heap [] (by omega) hl hP hS
  intro k
  induction k with
  | zero =>
    intro i ls H locs hi hl hP hS
    have hD : va_D A [(od, .inr (1, [.int (nI n), .int (nI a), .int (nI (2 ^ n - 1 - a)), .ref og, .ref oy, .ref oz, .int (nI q), .int (nI d), .int (nI v), .ref ot])), (og, .inr (0, [.int (nI n), .int (nI a), .ref ob, .ref oe])), (ob, .inl (cI, (2 ^ n), .inl (fun jq => nI ((sd_br Y Z q) jq)))), (oe, .inl (cZ, (2 * 2 ^ n), .inl (fun jq => bI ((sd_ew n a (fun w => sd_br Y Z q w == 0)) jq)))), (oy, .inl (cI, 24, .inl (fun jq => nI (Y jq)))), (oz, .inl (cI, 24, .inl (fun jq => nI (Z jq)))), (ot, .inl (cI, n, .inl (sd_cv a T sm vl i)))] := hw_ad hD rfl
    refine lv_iload_n hx hb dX1_claimValues_2 rfl (lv_at hl 3 rfl) ?_
    refine lv_aload_n hx hb dX1_claimValues_3 rfl (lv_at hl 0 rfl) ?_
    refine va_get (D := D) (ci := 1) (v := .int (nI n)) (C := RX1) (T := TX1) (N := 10) hx hb ht inX1 hown hK hP 0 rfl rfl 0 (by decide) (ht _ wf_X1_size) (fun _ h9 => h9) rfl dX1_claimValues_4 ?_
    refine lv_icmp_ge (tgt := 45) hx hb dX1_claimValues_7 rfl (fun _ => ?_) (fun hc => absurd (show ¬ (n ≤ i) from fun h9 => hc ((nI_leI (by omega) (by omega)).mpr h9)) (by omega))
    obtain rfl : n = i := by omega
    exact W.vret hx hb hr (fun t ht2 _ => ⟨rfl, by rw [ht2]; exact hP, hS.F ht2⟩) hS.2.2 dX1_claimValues_45
  | succ k ih =>
    intro i ls H locs hi hl hP hS
    have hD : va_D A [(od, .inr (1, [.int (nI n), .int (nI a), .int (nI (2 ^ n - 1 - a)), .ref og, .ref oy, .ref oz, .int (nI q), .int (nI d), .int (nI v), .ref ot])), (og, .inr (0, [.int (nI n), .int (nI a), .ref ob, .ref oe])), (ob, .inl (cI, (2 ^ n), .inl (fun jq => nI ((sd_br Y Z q) jq)))), (oe, .inl (cZ, (2 * 2 ^ n), .inl (fun jq => bI ((sd_ew n a (fun w => sd_br Y Z q w == 0)) jq)))), (oy, .inl (cI, 24, .inl (fun jq => nI (Y jq)))), (oz, .inl (cI, 24, .inl (fun jq => nI (Z jq)))), (ot, .inl (cI, n, .inl (sd_cv a T sm vl i)))] := hw_ad hD rfl
    have h32 := sd_p32 h5 (v := i) (by omega)
    have hmd : sm % 2 ^ sd_ct a i < 2 ^ sd_ct a i := Nat.mod_lt _ (Nat.two_pow_pos _)
    refine lv_iload_n hx hb dX1_claimValues_2 rfl (lv_at hl 3 rfl) ?_
    refine lv_aload_n hx hb dX1_claimValues_3 rfl (lv_at hl 0 rfl) ?_
    refine va_get (D := D) (ci := 1) (v := .int (nI n)) (C := RX1) (T := TX1) (N := 10) hx hb ht inX1 hown hK hP 0 rfl rfl 0 (by decide) (ht _ wf_X1_size) (fun _ h9 => h9) rfl dX1_claimValues_4 ?_
    refine lv_icmp_ge (tgt := 45) hx hb dX1_claimValues_7 rfl (fun hc => absurd (show n ≤ i from (nI_leI (by omega) (by omega)).mp hc) (by omega)) (fun _ => ?_)
    refine lv_aload_n hx hb dX1_claimValues_10 rfl (lv_at hl 0 rfl) ?_
    refine lv_iload_n hx hb dX1_claimValues_11 rfl (lv_at hl 3 rfl) ?_
    refine hw_callR (va_runV (b := od) (As := [.int (nI i)]) (rest := []) ⟨hx, hb, hml, hown, ht⟩ (c_isEves l D cI cZ od og ob oe oy oz ot n a q d v Y Z (sd_cv a T sm vl i) ok (nI i)) (cwV 1 ht (gV wm_X1_X1_isEves wi_X1_isEves ws_X1_isEves wn_X1 wc_X1_isEves) rfl rfl rfl (by decide +kernel) ⟨Nat.le_of_ble_eq_true rfl, Nat.le_of_ble_eq_true rfl⟩) (rPre_V 0 hP hK hN rfl rfl) rfl rfl hl.1 rfl (lv_room (Nat.le_of_ble_eq_true rfl)) dX1_claimValues_12 ⟨Nat.zero_le _, Nat.zero_le _⟩) ?_
    refine lv_nm (y := bI (!a.testBit i)) (congrArg bI (hw_ev0 (by omega) (by omega))) ?_
    refine lv_if_eq (tgt := 39) hx hb dX1_claimValues_15 rfl (fun h1 => ?_) (fun h1 => ?_)
    · have h1 : (!a.testBit i) = false := (bI_eq0 _).mp h1
      have hP : va_P D clS [(od, .inr (1, [.int (nI n), .int (nI a), .int (nI (2 ^ n - 1 - a)), .ref og, .ref oy, .ref oz, .int (nI q), .int (nI d), .int (nI v), .ref ot])), (og, .inr (0, [.int (nI n), .int (nI a), .ref ob, .ref oe])), (ob, .inl (cI, (2 ^ n), .inl (fun jq => nI ((sd_br Y Z q) jq)))), (oe, .inl (cZ, (2 * 2 ^ n), .inl (fun jq => bI ((sd_ew n a (fun w => sd_br Y Z q w == 0)) jq)))), (oy, .inl (cI, 24, .inl (fun jq => nI (Y jq)))), (oz, .inl (cI, 24, .inl (fun jq => nI (Z jq)))), (ot, .inl (cI, n, .inl (sd_cv a T sm vl (i + 1))))] H := hw_cg hP (sd_cv a T sm vl (i + 1)) (q0 := 6) rfl (fun j _ => sd_cv_a (by simpa using h1) j) rfl
      have hD : va_D A [(od, .inr (1, [.int (nI n), .int (nI a), .int (nI (2 ^ n - 1 - a)), .ref og, .ref oy, .ref oz, .int (nI q), .int (nI d), .int (nI v), .ref ot])), (og, .inr (0, [.int (nI n), .int (nI a), .ref ob, .ref oe])), (ob, .inl (cI, (2 ^ n), .inl (fun jq => nI ((sd_br Y Z q) jq)))), (oe, .inl (cZ, (2 * 2 ^ n), .inl (fun jq => bI ((sd_ew n a (fun w => sd_br Y Z q w == 0)) jq)))), (oy, .inl (cI, 24, .inl (fun jq => nI (Y jq)))), (oz, .inl (cI, 24, .inl (fun jq => nI (Z jq)))), (ot, .inl (cI, n, .inl (sd_cv a T sm vl (i + 1))))] := hw_ad hD rfl
      refine lv_iinc (k := 3) (v := nI (i + 1)) hx hb dX1_claimValues_39 hl rfl (hw_inc _) (by decide) rfl (fun ls hl => ?_)
      have hl : lv_has ls 4 [(3, .int (nI (i + 1))), (0, .ref od), (1, .int (nI sm)), (2, .int (nI vl))] := hl
      refine lv_goto (tgt := 2) hx hb dX1_claimValues_42 rfl ?_
      have hl : lv_has ls 4 [(0, .ref od), (1, .int (nI sm)), (2, .int (nI vl)), (3, .int (nI (i + 1)))] := lv_sub hl [1, 2, 3, 0] rfl
      exact ih (i + 1) ls H locs (by omega) hl hP hS
    · have h1 : (!a.testBit i) = true := bI_ne0 h1
      refine lv_aload_n hx hb dX1_claimValues_18 rfl (lv_at hl 0 rfl) ?_
      refine va_get (D := D) (ci := 1) (v := .ref ot) (C := RX1) (T := TX1) (N := 10) hx hb ht inX1 hown hK hP 0 rfl rfl 9 (by decide) (ht _ wf_X1_tables) (fun _ h9 => h9) rfl dX1_claimValues_19 ?_
      refine lv_iload_n hx hb dX1_claimValues_22 rfl (lv_at hl 3 rfl) ?_
      refine lv_dup2_11 hx hb dX1_claimValues_23 rfl rfl ?_
      refine na_iald (f := sd_cv a T sm vl i) hx hb hK hP 6 0 rfl rfl (j := i) (by omega) (by omega) dX1_claimValues_24 ?_
      refine lv_iload_n hx hb dX1_claimValues_25 rfl (lv_at hl 2 rfl) ?_
      refine lv_iload_n hx hb dX1_claimValues_26 rfl (lv_at hl 3 rfl) ?_
      refine hw_callR (va_runS (As := [.int (nI vl), .int (nI i)]) (rest := [.int ((sd_cv a T sm vl i) i), .int (nI i), .ref ot]) ⟨hx, hb, hml, hown, ht⟩ (c_bitn l D cI cZ vl i (by omega) (by omega)) (va_cwS 2 ht (gS wm_X1_X1_bit wt_X1_bit wn_X1 wc_X1_bit) rfl rfl rfl (by decide +kernel) ⟨Nat.le_of_ble_eq_true rfl, Nat.le_of_ble_eq_true rfl⟩) (rPre_S (hP.sub [] rfl) hK hN) rfl rfl hl.1 rfl (lv_room (Nat.le_of_ble_eq_true rfl)) dX1_claimValues_27 ⟨Nat.zero_le _, Nat.zero_le _⟩) ?_
      refine lv_aload_n hx hb dX1_claimValues_30 rfl (lv_at hl 0 rfl) ?_
      refine lv_iload_n hx hb dX1_claimValues_31 rfl (lv_at hl 3 rfl) ?_
      refine lv_iload_n hx hb dX1_claimValues_32 rfl (lv_at hl 1 rfl) ?_
      refine hw_callR (va_runV (b := od) (As := [.int (nI i), .int (nI sm)]) (rest := [.int (bI (vl.testBit i)), .int ((sd_cv a T sm vl i) i), .int (nI i), .ref ot]) ⟨hx, hb, hml, hown, ht⟩ (c_sumBefore l D cI cZ od og ob oe oy oz ot n a q d v Y Z (sd_cv a T sm vl i) ok i sm (by omega)) (cwV 2 ht (gV wm_X1_X1_sumBefore wi_X1_sumBefore ws_X1_sumBefore wn_X1 wc_X1_sumBefore) rfl rfl rfl (by decide +kernel) ⟨Nat.le_of_ble_eq_true rfl, Nat.le_of_ble_eq_true rfl⟩) (rPre_V 0 hP hK hN rfl rfl) rfl rfl hl.1 rfl (lv_room (Nat.le_of_ble_eq_true rfl)) dX1_claimValues_33 ⟨Nat.zero_le _, Nat.zero_le _⟩) ?_
      refine lv_ishl hx hb dX1_claimValues_36 ?_
      refine lv_nm (y := nI ((vl.testBit i).toNat * 2 ^ (sm % 2 ^ sd_ct a i))) (hw_bshl _ (by omega)) ?_
      refine lv_ior hx hb dX1_claimValues_37 ?_
      refine na_iast (f := sd_cv a T sm vl i) (x := ((sd_cv a T sm vl i) i) ||| (nI ((vl.testBit i).toNat * 2 ^ (sm % 2 ^ sd_ct a i)))) hx hb hK hP hD hS 6 0 rfl rfl (j := i) (by omega) (by omega) dX1_claimValues_38 (fun H locs hP hD hS => ?_)
      have hP : va_P D clS [(od, .inr (1, [.int (nI n), .int (nI a), .int (nI (2 ^ n - 1 - a)), .ref og, .ref oy, .ref oz, .int (nI q), .int (nI d), .int (nI v), .ref ot])), (og, .inr (0, [.int (nI n), .int (nI a), .ref ob, .ref oe])), (ob, .inl (cI, (2 ^ n), .inl (fun jq => nI ((sd_br Y Z q) jq)))), (oe, .inl (cZ, (2 * 2 ^ n), .inl (fun jq => bI ((sd_ew n a (fun w => sd_br Y Z q w == 0)) jq)))), (oy, .inl (cI, 24, .inl (fun jq => nI (Y jq)))), (oz, .inl (cI, 24, .inl (fun jq => nI (Z jq)))), (ot, .inl (cI, n, .inl (upd (sd_cv a T sm vl i) i (((sd_cv a T sm vl i) i) ||| (nI ((vl.testBit i).toNat * 2 ^ (sm % 2 ^ sd_ct a i)))))))] H := hP
      have hD : va_D A [(od, .inr (1, [.int (nI n), .int (nI a), .int (nI (2 ^ n - 1 - a)), .ref og, .ref oy, .ref oz, .int (nI q), .int (nI d), .int (nI v), .ref ot])), (og, .inr (0, [.int (nI n), .int (nI a), .ref ob, .ref oe])), (ob, .inl (cI, (2 ^ n), .inl (fun jq => nI ((sd_br Y Z q) jq)))), (oe, .inl (cZ, (2 * 2 ^ n), .inl (fun jq => bI ((sd_ew n a (fun w => sd_br Y Z q w == 0)) jq)))), (oy, .inl (cI, 24, .inl (fun jq => nI (Y jq)))), (oz, .inl (cI, 24, .inl (fun jq => nI (Z jq)))), (ot, .inl (cI, n, .inl (upd (sd_cv a T sm vl i) i (((sd_cv a T sm vl i) i) ||| (nI ((vl.testBit i).toNat * 2 ^ (sm % 2 ^ sd_ct a i)))))))] := hD
      have hP : va_P D clS [(od, .inr (1, [.int (nI n), .int (nI a), .int (nI (2 ^ n - 1 - a)), .ref og, .ref oy, .ref oz, .int (nI q), .int (nI d), .int (nI v), .ref ot])), (og, .inr (0, [.int (nI n), .int (nI a), .ref ob, .ref oe])), (ob, .inl (cI, (2 ^ n), .inl (fun jq => nI ((sd_br Y Z q) jq)))), (oe, .inl (cZ, (2 * 2 ^ n), .inl (fun jq => bI ((sd_ew n a (fun w => sd_br Y Z q w == 0)) jq)))), (oy, .inl (cI, 24, .inl (fun jq => nI (Y jq)))), (oz, .inl (cI, 24, .inl (fun jq => nI (Z jq)))), (ot, .inl (cI, n, .inl (sd_cv a T sm vl (i + 1))))] H := hw_cg hP (sd_cv a T sm vl (i + 1)) (q0 := 6) rfl (fun j _ => sd_cv_e (by simpa using h1) j) rfl
      have hD : va_D A [(od, .inr (1, [.int (nI n), .int (nI a), .int (nI (2 ^ n - 1 - a)), .ref og, .ref oy, .ref oz, .int (nI q), .int (nI d), .int (nI v), .ref ot])), (og, .inr (0, [.int (nI n), .int (nI a), .ref ob, .ref oe])), (ob, .inl (cI, (2 ^ n), .inl (fun jq => nI ((sd_br Y Z q) jq)))), (oe, .inl (cZ, (2 * 2 ^ n), .inl (fun jq => bI ((sd_ew n a (fun w => sd_br Y Z q w == 0)) jq)))), (oy, .inl (cI, 24, .inl (fun jq => nI (Y jq)))), (oz, .inl (cI, 24, .inl (fun jq => nI (Z jq)))), (ot, .inl (cI, n, .inl (sd_cv a T sm vl (i + 1))))] := hw_ad hD rfl
      refine lv_iinc (k := 3) (v := nI (i + 1)) hx hb dX1_claimValues_39 hl rfl (hw_inc _) (by decide) rfl (fun ls hl => ?_)
      have hl : lv_has ls 4 [(3, .int (nI (i + 1))), (0, .ref od), (1, .int (nI sm)), (2, .int (nI vl))] := hl
      refine lv_goto (tgt := 2) hx hb dX1_claimValues_42 rfl ?_
      have hl : lv_has ls 4 [(0, .ref od), (1, .int (nI sm)), (2, .int (nI vl)), (3, .int (nI (i + 1)))] := lv_sub hl [1, 2, 3, 0] rfl
      exact ih (i + 1) ls H locs (by omega) hl hP hS

set_option maxHeartbeats 4000000 in
set_option maxRecDepth 100000 in
theorem c_learn (l : Launch) (D : va_G) (cI cZ : ClassId) (od og ob oe oy oz ot n a q d v : Nat) (Y Z : Nat → Nat) (T : Nat → Int32) (ok : dOk n a q d v Y Z) (sz : Nat) : Met l yX1_learn (kX1_learn :: aW) { frames := 5, cells := 0, slots := 0, locals := 108 } (wPre [.ref od] D [(od, .inr (1, [.int (nI n), .int (nI a), .int (nI (2 ^ n - 1 - a)), .ref og, .ref oy, .ref oz, .int (nI q), .int (nI d), .int (nI v), .ref ot])), (og, .inr (0, [.int (nI n), .int (nI a), .ref ob, .ref oe])), (ob, .inl (cI, (2 ^ n), .inl (fun jq => nI ((sd_br Y Z q) jq)))), (oe, .inl (cZ, (2 * 2 ^ n), .inl (fun jq => bI ((sd_ew n a (fun w => sd_br Y Z q w == 0)) jq)))), (oy, .inl (cI, 24, .inl (fun jq => nI (Y jq)))), (oz, .inl (cI, 24, .inl (fun jq => nI (Z jq)))), (ot, .inl (cI, n, .inl T))] [(cI, .int), (cZ, .boolean)] sz) (wQ (some (.int (sd_gp (fun sm => sd_br Y Z q (sd_ac (sd_cl a (sd_T n a (fun w => sd_br Y Z q w == 0) T) sm) n) == 0) (2 ^ sd_ct a n) 0))) D [(od, .inr (1, [.int (nI n), .int (nI a), .int (nI (2 ^ n - 1 - a)), .ref og, .ref oy, .ref oz, .int (nI q), .int (nI d), .int (nI v), .ref ot])), (og, .inr (0, [.int (nI n), .int (nI a), .ref ob, .ref oe])), (ob, .inl (cI, (2 ^ n), .inl (fun jq => nI ((sd_br Y Z q) jq)))), (oe, .inl (cZ, (2 * 2 ^ n), .inl (fun jq => bI ((sd_ew n a (fun w => sd_br Y Z q w == 0)) jq)))), (oy, .inl (cI, 24, .inl (fun jq => nI (Y jq)))), (oz, .inl (cI, 24, .inl (fun jq => nI (Z jq)))), (ot, .inl (cI, n, .inl (sd_T n a (fun w => sd_br Y Z q w == 0) T)))] (va_A [(od, .inr (1, [.int (nI n), .int (nI a), .int (nI (2 ^ n - 1 - a)), .ref og, .ref oy, .ref oz, .int (nI q), .int (nI d), .int (nI v), .ref ot])), (og, .inr (0, [.int (nI n), .int (nI a), .ref ob, .ref oe])), (ob, .inl (cI, (2 ^ n), .inl (fun jq => nI ((sd_br Y Z q) jq)))), (oe, .inl (cZ, (2 * 2 ^ n), .inl (fun jq => bI ((sd_ew n a (fun w => sd_br Y Z q w == 0)) jq)))), (oy, .inl (cI, 24, .inl (fun jq => nI (Y jq)))), (oz, .inl (cI, 24, .inl (fun jq => nI (Z jq)))), (ot, .inl (cI, n, .inl T))] sz)) 0 0 (va_A [(od, .inr (1, [.int (nI n), .int (nI a), .int (nI (2 ^ n - 1 - a)), .ref og, .ref oy, .ref oz, .int (nI q), .int (nI d), .int (nI v), .ref ot])), (og, .inr (0, [.int (nI n), .int (nI a), .ref ob, .ref oe])), (ob, .inl (cI, (2 ^ n), .inl (fun jq => nI ((sd_br Y Z q) jq)))), (oe, .inl (cZ, (2 * 2 ^ n), .inl (fun jq => bI ((sd_ew n a (fun w => sd_br Y Z q w == 0)) jq)))), (oy, .inl (cI, 24, .inl (fun jq => nI (Y jq)))), (oz, .inl (cI, 24, .inl (fun jq => nI (Z jq)))), (ot, .inl (cI, n, .inl T))] sz) := by
  obtain ⟨hn1, hn, ha, h5, hq, hY, hZ, hd, hv⟩ := id ok
  have h2n := hw_p10 hn
  refine Met.ofW (cc := cX1_learn) (maxL := 3) (ret := (some .int)) (by decide) rfl ?_
  intro p e s m args below meth c s₁ Bo hml hpre
  obtain ⟨rfl, hsz, hP, hK, hN, hD0⟩ := hpre
  subst hsz
  have hD := hD0.self (sz := s.heap.size)
  generalize hAe : va_A [(od, .inr (1, [.int (nI n), .int (nI a), .int (nI (2 ^ n - 1 - a)), .ref og, .ref oy, .ref oz, .int (nI q), .int (nI d), .int (nI v), .ref ot])), (og, .inr (0, [.int (nI n), .int (nI a), .ref ob, .ref oe])), (ob, .inl (cI, (2 ^ n), .inl (fun jq => nI ((sd_br Y Z q) jq)))), (oe, .inl (cZ, (2 * 2 ^ n), .inl (fun jq => bI ((sd_ew n a (fun w => sd_br Y Z q w == 0)) jq)))), (oy, .inl (cI, 24, .inl (fun jq => nI (Y jq)))), (oz, .inl (cI, 24, .inl (fun jq => nI (Z jq)))), (ot, .inl (cI, n, .inl T))] s.heap.size = A at hD ⊢
  have hA : ∀ q : Nat, s.heap.size ≤ q → A q := fun q h => by rw [← hAe]; exact Or.inr h
  have hS : va_S A s.heap s.heap [] := va_S.rf
  have hx := Bo.exec
  have hb := Bo.bytes
  have hr := Bo.returns
  have hts := atoms_spec (ws := kX1_learn :: aW) Bo.pre
  have ht : ∀ w ∈ aW, w.before _ s = true := fun w h => hts w (List.mem_cons_of_mem _ h)
  have hown : s.vm.findClass RX1 = some m.cls := findClass_of_methodNamed Bo.named
  have hlocks := Bo.notSynchronized
  have hP : va_P D clS [(od, .inr (1, [.int (nI n), .int (nI a), .int (nI (2 ^ n - 1 - a)), .ref og, .ref oy, .ref oz, .int (nI q), .int (nI d), .int (nI v), .ref ot])), (og, .inr (0, [.int (nI n), .int (nI a), .ref ob, .ref oe])), (ob, .inl (cI, (2 ^ n), .inl (fun jq => nI ((sd_br Y Z q) jq)))), (oe, .inl (cZ, (2 * 2 ^ n), .inl (fun jq => bI ((sd_ew n a (fun w => sd_br Y Z q w == 0)) jq)))), (oy, .inl (cI, 24, .inl (fun jq => nI (Y jq)))), (oz, .inl (cI, 24, .inl (fun jq => nI (Z jq)))), (ot, .inl (cI, n, .inl T))] s.heap := hP
  have hl := lv_entry ([.ref od]) (n := 3) (Nat.le_of_ble_eq_true rfl)
  rw [lg_entry_eq]
  generalize (lg_sl ([.ref od]) ++ List.replicate (3 - (lg_sl ([.ref od])).length) Slot.unset).toArray = ls at hl ⊢
  have hl : lv_has ls 3 [(0, .ref od)] := hl
  refine lv_iconst (v := nI 0) hx hb dX1_learn_0 (by decide) ?_
  refine lv_istore_n hx hb dX1_learn_1 rfl hl (by decide) rfl (fun ls hl => ?_)
  have hl : lv_has ls 3 [(1, .int (nI 0)), (0, .ref od)] := hl
  have hl : lv_has ls 3 [(0, .ref od), (1, .int (nI 0))] := lv_sub hl [1, 0] rfl
  suffices lp : ∀ k : Nat, ∀ (i : Nat) (F : Nat → Int32) (ls : Array Slot) (H : Heap) (locs : List Loc), (i + k = n) → (∀ j, j < i → F j = 0) → lv_has ls 3 [(0, .ref od), (1, .int (nI i))] → va_P D clS [(od, .inr (1, [.int (nI n), .int (nI a), .int (nI (2 ^ n - 1 - a)), .ref og, .ref oy, .ref oz, .int (nI q), .int (nI d), .int (nI v), .ref ot])), (og, .inr (0, [.int (nI n), .int (nI a), .ref ob, .ref oe])), (ob, .inl (cI, (2 ^ n), .inl (fun jq => nI ((sd_br Y Z q) jq)))), (oe, .inl (cZ, (2 * 2 ^ n), .inl (fun jq => bI ((sd_ew n a (fun w => sd_br Y Z q w == 0)) jq)))), (oy, .inl (cI, 24, .inl (fun jq => nI (Y jq)))), (oz, .inl (cI, 24, .inl (fun jq => nI (Z jq)))), (ot, .inl (cI, n, .inl F))] H → va_S A s.heap H locs → W p l e (headSpec (kX1_learn :: aW) { frames := 5, cells := 0, slots := 0, locals := 108 }).room s m (([.ref od] : List Value).toArray) below meth c H locs 0 0 (MQ below (wQ (some (.int (sd_gp (fun sm => sd_br Y Z q (sd_ac (sd_cl a (sd_T n a (fun w => sd_br Y Z q w == 0) T) sm) n) == 0) (2 ^ sd_ct a n) 0))) D [(od, .inr (1, [.int (nI n), .int (nI a), .int (nI (2 ^ n - 1 - a)), .ref og, .ref oy, .ref oz, .int (nI q), .int (nI d), .int (nI v), .ref ot])), (og, .inr (0, [.int (nI n), .int (nI a), .ref ob, .ref oe])), (ob, .inl (cI, (2 ^ n), .inl (fun jq => nI ((sd_br Y Z q) jq)))), (oe, .inl (cZ, (2 * 2 ^ n), .inl (fun jq => bI ((sd_ew n a (fun w => sd_br Y Z q w == 0)) jq)))), (oy, .inl (cI, 24, .inl (fun jq => nI (Y jq)))), (oz, .inl (cI, 24, .inl (fun jq => nI (Z jq)))), (ot, .inl (cI, n, .inl (sd_T n a (fun w => sd_br Y Z q w == 0) T)))] A) (([.ref od] : List Value).toArray) s 0 0 A) (F0 m 2 ls []) by
    exact lp n 0 T ls s.heap [] (by omega) (fun j hj => by omega) hl hP hS
  intro k
  induction k with
  | zero =>
    intro i F ls H locs hi hF hl hP hS
    have hD : va_D A [(od, .inr (1, [.int (nI n), .int (nI a), .int (nI (2 ^ n - 1 - a)), .ref og, .ref oy, .ref oz, .int (nI q), .int (nI d), .int (nI v), .ref ot])), (og, .inr (0, [.int (nI n), .int (nI a), .ref ob, .ref oe])), (ob, .inl (cI, (2 ^ n), .inl (fun jq => nI ((sd_br Y Z q) jq)))), (oe, .inl (cZ, (2 * 2 ^ n), .inl (fun jq => bI ((sd_ew n a (fun w => sd_br Y Z q w == 0)) jq)))), (oy, .inl (cI, 24, .inl (fun jq => nI (Y jq)))), (oz, .inl (cI, 24, .inl (fun jq => nI (Z jq)))), (ot, .inl (cI, n, .inl F))] := hw_ad hD rfl
    refine lv_iload_n hx hb dX1_learn_2 rfl (lv_at hl 1 rfl) ?_
    refine lv_aload_n hx hb dX1_learn_3 rfl (lv_at hl 0 rfl) ?_
    refine va_get (D := D) (ci := 1) (v := .int (nI n)) (C := RX1) (T := TX1) (N := 10) hx hb ht inX1 hown hK hP 0 rfl rfl 0 (by decide) (ht _ wf_X1_size) (fun _ h9 => h9) rfl dX1_learn_4 ?_
    refine lv_icmp_ge (tgt := 23) hx hb dX1_learn_7 rfl (fun _ => ?_) (fun hc => absurd (show ¬ (n ≤ i) from fun h9 => hc ((nI_leI (by omega) (by omega)).mpr h9)) (by omega))
    obtain rfl : n = i := by omega
    have hP : va_P D clS [(od, .inr (1, [.int (nI n), .int (nI a), .int (nI (2 ^ n - 1 - a)), .ref og, .ref oy, .ref oz, .int (nI q), .int (nI d), .int (nI v), .ref ot])), (og, .inr (0, [.int (nI n), .int (nI a), .ref ob, .ref oe])), (ob, .inl (cI, (2 ^ n), .inl (fun jq => nI ((sd_br Y Z q) jq)))), (oe, .inl (cZ, (2 * 2 ^ n), .inl (fun jq => bI ((sd_ew n a (fun w => sd_br Y Z q w == 0)) jq)))), (oy, .inl (cI, 24, .inl (fun jq => nI (Y jq)))), (oz, .inl (cI, 24, .inl (fun jq => nI (Z jq)))), (ot, .inl (cI, n, .inl (sd_Ts n a (fun w => sd_br Y Z q w == 0) T 0)))] H := hw_cg hP (sd_Ts n a (fun w => sd_br Y Z q w == 0) T 0) (q0 := 6) rfl (fun j hj => (hF j hj).trans (sd_Ts_0 hj).symm) rfl
    have hD : va_D A [(od, .inr (1, [.int (nI n), .int (nI a), .int (nI (2 ^ n - 1 - a)), .ref og, .ref oy, .ref oz, .int (nI q), .int (nI d), .int (nI v), .ref ot])), (og, .inr (0, [.int (nI n), .int (nI a), .ref ob, .ref oe])), (ob, .inl (cI, (2 ^ n), .inl (fun jq => nI ((sd_br Y Z q) jq)))), (oe, .inl (cZ, (2 * 2 ^ n), .inl (fun jq => bI ((sd_ew n a (fun w => sd_br Y Z q w == 0)) jq)))), (oy, .inl (cI, 24, .inl (fun jq => nI (Y jq)))), (oz, .inl (cI, 24, .inl (fun jq => nI (Z jq)))), (ot, .inl (cI, n, .inl (sd_Ts n a (fun w => sd_br Y Z q w == 0) T 0)))] := hw_ad hD rfl
    have h32 := sd_p32 h5 (v := n) (Nat.le_refl n)
    refine lv_aload_n hx hb dX1_learn_23 rfl (lv_at hl 0 rfl) ?_
    refine lv_aload_n hx hb dX1_learn_24 rfl (lv_at hl 0 rfl) ?_
    refine va_get (D := D) (ci := 1) (v := .int (nI n)) (C := RX1) (T := TX1) (N := 10) hx hb ht inX1 hown hK hP 0 rfl rfl 0 (by decide) (ht _ wf_X1_size) (fun _ h9 => h9) rfl dX1_learn_25 ?_
    refine hw_callR (va_runV (b := od) (As := [.int (nI n)]) (rest := []) ⟨hx, hb, hml, hown, ht⟩ (c_sumsBefore l D cI cZ od og ob oe oy oz ot n a q d v Y Z (sd_Ts n a (fun w => sd_br Y Z q w == 0) T 0) ok n (Nat.le_refl n)) (cwV 1 ht (gV wm_X1_X1_sumsBefore wi_X1_sumsBefore ws_X1_sumsBefore wn_X1 wc_X1_sumsBefore) rfl rfl rfl (by decide +kernel) ⟨Nat.le_of_ble_eq_true rfl, Nat.le_of_ble_eq_true rfl⟩) (rPre_V 0 hP hK hN rfl rfl) rfl rfl hl.1 rfl (lv_room (Nat.le_of_ble_eq_true rfl)) dX1_learn_28 ⟨Nat.zero_le _, Nat.zero_le _⟩) ?_
    refine lv_istore_n hx hb dX1_learn_31 rfl hl (by decide) rfl (fun ls hl => ?_)
    have hl : lv_has ls 3 [(1, .int (nI (2 ^ sd_ct a n))), (0, .ref od)] := hl
    refine lv_iconst (v := nI 0) hx hb dX1_learn_32 (by decide) ?_
    refine lv_istore_n hx hb dX1_learn_33 rfl hl (by decide) rfl (fun ls hl => ?_)
    have hl : lv_has ls 3 [(2, .int (nI 0)), (1, .int (nI (2 ^ sd_ct a n))), (0, .ref od)] := hl
    have hl : lv_has ls 3 [(0, .ref od), (1, .int (nI (2 ^ sd_ct a n))), (2, .int (nI 0))] := lv_sub hl [2, 1, 0] rfl
    suffices lq : ∀ k : Nat, ∀ (i : Nat) (ls : Array Slot) (H : Heap) (locs : List Loc), (i + k = 2 ^ sd_ct a n) → lv_has ls 3 [(0, .ref od), (1, .int (nI (2 ^ sd_ct a n))), (2, .int (nI i))] → va_P D clS [(od, .inr (1, [.int (nI n), .int (nI a), .int (nI (2 ^ n - 1 - a)), .ref og, .ref oy, .ref oz, .int (nI q), .int (nI d), .int (nI v), .ref ot])), (og, .inr (0, [.int (nI n), .int (nI a), .ref ob, .ref oe])), (ob, .inl (cI, (2 ^ n), .inl (fun jq => nI ((sd_br Y Z q) jq)))), (oe, .inl (cZ, (2 * 2 ^ n), .inl (fun jq => bI ((sd_ew n a (fun w => sd_br Y Z q w == 0)) jq)))), (oy, .inl (cI, 24, .inl (fun jq => nI (Y jq)))), (oz, .inl (cI, 24, .inl (fun jq => nI (Z jq)))), (ot, .inl (cI, n, .inl (sd_Ts n a (fun w => sd_br Y Z q w == 0) T i)))] H → va_S A s.heap H locs → W p l e (headSpec (kX1_learn :: aW) { frames := 5, cells := 0, slots := 0, locals := 108 }).room s m (([.ref od] : List Value).toArray) below meth c H locs 0 0 (MQ below (wQ (some (.int (sd_gp (fun sm => sd_br Y Z q (sd_ac (sd_cl a (sd_T n a (fun w => sd_br Y Z q w == 0) T) sm) n) == 0) (2 ^ sd_ct a n) 0))) D [(od, .inr (1, [.int (nI n), .int (nI a), .int (nI (2 ^ n - 1 - a)), .ref og, .ref oy, .ref oz, .int (nI q), .int (nI d), .int (nI v), .ref ot])), (og, .inr (0, [.int (nI n), .int (nI a), .ref ob, .ref oe])), (ob, .inl (cI, (2 ^ n), .inl (fun jq => nI ((sd_br Y Z q) jq)))), (oe, .inl (cZ, (2 * 2 ^ n), .inl (fun jq => bI ((sd_ew n a (fun w => sd_br Y Z q w == 0)) jq)))), (oy, .inl (cI, 24, .inl (fun jq => nI (Y jq)))), (oz, .inl (cI, 24, .inl (fun jq => nI (Z jq)))), (ot, .inl (cI, n, .inl (sd_T n a (fun w => sd_br Y Z q w == 0) T)))] A) (([.ref od] : List Value).toArray) s 0 0 A) (F0 m 34 ls []) by
      exact lq (2 ^ sd_ct a n) 0 ls H locs (by omega) hl hP hS
    intro k
    induction k with
    | zero =>
      intro i ls H locs hi hl hP hS
      have hD : va_D A [(od, .inr (1, [.int (nI n), .int (nI a), .int (nI (2 ^ n - 1 - a)), .ref og, .ref oy, .ref oz, .int (nI q), .int (nI d), .int (nI v), .ref ot])), (og, .inr (0, [.int (nI n), .int (nI a), .ref ob, .ref oe])), (ob, .inl (cI, (2 ^ n), .inl (fun jq => nI ((sd_br Y Z q) jq)))), (oe, .inl (cZ, (2 * 2 ^ n), .inl (fun jq => bI ((sd_ew n a (fun w => sd_br Y Z q w == 0)) jq)))), (oy, .inl (cI, 24, .inl (fun jq => nI (Y jq)))), (oz, .inl (cI, 24, .inl (fun jq => nI (Z jq)))), (ot, .inl (cI, n, .inl (sd_Ts n a (fun w => sd_br Y Z q w == 0) T i)))] := hw_ad hD rfl
      refine lv_iload_n hx hb dX1_learn_34 rfl (lv_at hl 2 rfl) ?_
      refine lv_iload_n hx hb dX1_learn_35 rfl (lv_at hl 1 rfl) ?_
      refine lv_icmp_ge (tgt := 63) hx hb dX1_learn_36 rfl (fun _ => ?_) (fun hc => absurd (show ¬ (2 ^ sd_ct a n ≤ i) from fun h9 => hc ((nI_leI (by omega) (by omega)).mpr h9)) (by omega))
      obtain rfl : i = 2 ^ sd_ct a n := by omega
      have hP : va_P D clS [(od, .inr (1, [.int (nI n), .int (nI a), .int (nI (2 ^ n - 1 - a)), .ref og, .ref oy, .ref oz, .int (nI q), .int (nI d), .int (nI v), .ref ot])), (og, .inr (0, [.int (nI n), .int (nI a), .ref ob, .ref oe])), (ob, .inl (cI, (2 ^ n), .inl (fun jq => nI ((sd_br Y Z q) jq)))), (oe, .inl (cZ, (2 * 2 ^ n), .inl (fun jq => bI ((sd_ew n a (fun w => sd_br Y Z q w == 0)) jq)))), (oy, .inl (cI, 24, .inl (fun jq => nI (Y jq)))), (oz, .inl (cI, 24, .inl (fun jq => nI (Z jq)))), (ot, .inl (cI, n, .inl (sd_T n a (fun w => sd_br Y Z q w == 0) T)))] H := hw_cg hP (sd_T n a (fun w => sd_br Y Z q w == 0) T) (q0 := 6) rfl (fun j _ => sd_Ts_end (fun w => sd_br Y Z q w == 0) T j) rfl
      have hD : va_D A [(od, .inr (1, [.int (nI n), .int (nI a), .int (nI (2 ^ n - 1 - a)), .ref og, .ref oy, .ref oz, .int (nI q), .int (nI d), .int (nI v), .ref ot])), (og, .inr (0, [.int (nI n), .int (nI a), .ref ob, .ref oe])), (ob, .inl (cI, (2 ^ n), .inl (fun jq => nI ((sd_br Y Z q) jq)))), (oe, .inl (cZ, (2 * 2 ^ n), .inl (fun jq => bI ((sd_ew n a (fun w => sd_br Y Z q w == 0)) jq)))), (oy, .inl (cI, 24, .inl (fun jq => nI (Y jq)))), (oz, .inl (cI, 24, .inl (fun jq => nI (Z jq)))), (ot, .inl (cI, n, .inl (sd_T n a (fun w => sd_br Y Z q w == 0) T)))] := hw_ad hD rfl
      refine lv_aload_n hx hb dX1_learn_63 rfl (lv_at hl 0 rfl) ?_
      refine hw_callR (va_runV (b := od) (As := []) (rest := []) ⟨hx, hb, hml, hown, ht⟩ (c_gap l D cI cZ od og ob oe oy oz ot n a q d v Y Z (sd_T n a (fun w => sd_br Y Z q w == 0) T) ok) (cwV 0 ht (gV wm_X1_X1_gap wi_X1_gap ws_X1_gap wn_X1 wc_X1_gap) rfl rfl rfl (by decide +kernel) ⟨Nat.le_of_ble_eq_true rfl, Nat.le_of_ble_eq_true rfl⟩) (rPre_V 0 hP hK hN rfl rfl) rfl rfl hl.1 rfl (lv_room (Nat.le_of_ble_eq_true rfl)) dX1_learn_64 ⟨Nat.zero_le _, Nat.zero_le _⟩) ?_
      exact W.iret hx hb hr (fun t ht2 _ => ⟨hw_ret (rfl), by rw [ht2]; exact hP, hS.F ht2⟩) hS.2.2 dX1_learn_67
    | succ k ih2 =>
      intro i ls H locs hi hl hP hS
      have hD : va_D A [(od, .inr (1, [.int (nI n), .int (nI a), .int (nI (2 ^ n - 1 - a)), .ref og, .ref oy, .ref oz, .int (nI q), .int (nI d), .int (nI v), .ref ot])), (og, .inr (0, [.int (nI n), .int (nI a), .ref ob, .ref oe])), (ob, .inl (cI, (2 ^ n), .inl (fun jq => nI ((sd_br Y Z q) jq)))), (oe, .inl (cZ, (2 * 2 ^ n), .inl (fun jq => bI ((sd_ew n a (fun w => sd_br Y Z q w == 0)) jq)))), (oy, .inl (cI, 24, .inl (fun jq => nI (Y jq)))), (oz, .inl (cI, 24, .inl (fun jq => nI (Z jq)))), (ot, .inl (cI, n, .inl (sd_Ts n a (fun w => sd_br Y Z q w == 0) T i)))] := hw_ad hD rfl
      have hav := sd_ac_lt (sd_li a (fun _ _ => false) i) n
      have hll := sd_ac_lt (sd_li a (sd_bm n a (fun w => sd_br Y Z q w == 0)) i) n
      refine lv_iload_n hx hb dX1_learn_34 rfl (lv_at hl 2 rfl) ?_
      refine lv_iload_n hx hb dX1_learn_35 rfl (lv_at hl 1 rfl) ?_
      refine lv_icmp_ge (tgt := 63) hx hb dX1_learn_36 rfl (fun hc => absurd (show 2 ^ sd_ct a n ≤ i from (nI_leI (by omega) (by omega)).mp hc) (by omega)) (fun _ => ?_)
      refine lv_aload_n hx hb dX1_learn_39 rfl (lv_at hl 0 rfl) ?_
      refine lv_iload_n hx hb dX1_learn_40 rfl (lv_at hl 2 rfl) ?_
      refine lv_aload_n hx hb dX1_learn_41 rfl (lv_at hl 0 rfl) ?_
      refine lv_aload_n hx hb dX1_learn_42 rfl (lv_at hl 0 rfl) ?_
      refine va_get (D := D) (ci := 1) (v := .int (nI (2 ^ n - 1 - a))) (C := RX1) (T := TX1) (N := 10) hx hb ht inX1 hown hK hP 0 rfl rfl 2 (by decide) (ht _ wf_X1_eveSet) (fun _ h9 => h9) rfl dX1_learn_43 ?_
      refine lv_aload_n hx hb dX1_learn_46 rfl (lv_at hl 0 rfl) ?_
      refine lv_iload_n hx hb dX1_learn_47 rfl (lv_at hl 2 rfl) ?_
      refine hw_callR (va_runV (b := od) (As := [.int (nI i)]) (rest := [.int (nI (2 ^ n - 1 - a)), .ref od, .int (nI i), .ref od]) ⟨hx, hb, hml, hown, ht⟩ (c_adamValues l D cI cZ od og ob oe oy oz ot n a q d v Y Z (sd_Ts n a (fun w => sd_br Y Z q w == 0) T i) ok i (by omega)) (cwV 1 ht (gV wm_X1_X1_adamValues wi_X1_adamValues ws_X1_adamValues wn_X1 wc_X1_adamValues) rfl rfl rfl (by decide +kernel) ⟨Nat.le_of_ble_eq_true rfl, Nat.le_of_ble_eq_true rfl⟩) (rPre_V 0 hP hK hN rfl rfl) rfl rfl hl.1 rfl (lv_room (Nat.le_of_ble_eq_true rfl)) dX1_learn_48 ⟨Nat.zero_le _, Nat.zero_le _⟩) ?_
      refine hw_callR (va_runV (b := od) (As := [.int (nI (2 ^ n - 1 - a)), .int (nI (sd_ac (sd_li a (fun _ _ => false) i) n))]) (rest := [.int (nI i), .ref od]) ⟨hx, hb, hml, hown, ht⟩ (c_valuesWithBest l D cI cZ od og ob oe oy oz ot n a q d v Y Z (sd_Ts n a (fun w => sd_br Y Z q w == 0) T i) ok (2 ^ n - 1 - a) (nI (sd_ac (sd_li a (fun _ _ => false) i) n)) (by omega)) (cwV 2 ht (gV wm_X1_X1_valuesWithBest wi_X1_valuesWithBest ws_X1_valuesWithBest wn_X1 wc_X1_valuesWithBest) rfl rfl rfl (by decide +kernel) ⟨Nat.le_of_ble_eq_true rfl, Nat.le_of_ble_eq_true rfl⟩) (rPre_V 0 hP hK hN rfl rfl) rfl rfl hl.1 rfl (lv_room (Nat.le_of_ble_eq_true rfl)) dX1_learn_51 ⟨Nat.zero_le _, Nat.zero_le _⟩) ?_
      refine lv_nm (y := nI (sd_ac (sd_li a (sd_bm n a (fun w => sd_br Y Z q w == 0)) i) n)) (by rw [uN_nI (by omega), sd_vb_li ha]) ?_
      refine hw_callW (ws' := [(od, .inr (1, [.int (nI n), .int (nI a), .int (nI (2 ^ n - 1 - a)), .ref og, .ref oy, .ref oz, .int (nI q), .int (nI d), .int (nI v), .ref ot])), (og, .inr (0, [.int (nI n), .int (nI a), .ref ob, .ref oe])), (ob, .inl (cI, (2 ^ n), .inl (fun jq => nI ((sd_br Y Z q) jq)))), (oe, .inl (cZ, (2 * 2 ^ n), .inl (fun jq => bI ((sd_ew n a (fun w => sd_br Y Z q w == 0)) jq)))), (oy, .inl (cI, 24, .inl (fun jq => nI (Y jq)))), (oz, .inl (cI, 24, .inl (fun jq => nI (Z jq)))), (ot, .inl (cI, n, .inl (sd_cv a (sd_Ts n a (fun w => sd_br Y Z q w == 0) T i) i (sd_ac (sd_li a (sd_bm n a (fun w => sd_br Y Z q w == 0)) i) n) n)))]) (va_runV (b := od) (As := [.int (nI i), .int (nI (sd_ac (sd_li a (sd_bm n a (fun w => sd_br Y Z q w == 0)) i) n))]) (rest := []) ⟨hx, hb, hml, hown, ht⟩ (c_claimValues l D cI cZ od og ob oe oy oz ot n a q d v Y Z (sd_Ts n a (fun w => sd_br Y Z q w == 0) T i) ok H.size i (sd_ac (sd_li a (sd_bm n a (fun w => sd_br Y Z q w == 0)) i) n) (by omega) hll) (cwV 2 ht (gV wm_X1_X1_claimValues wi_X1_claimValues ws_X1_claimValues wn_X1 wc_X1_claimValues) rfl rfl rfl (by decide +kernel) ⟨Nat.le_of_ble_eq_true rfl, Nat.le_of_ble_eq_true rfl⟩) (wPre_V 0 hP hD hK hN rfl rfl) rfl rfl hl.1 rfl (lv_room (Nat.le_of_ble_eq_true rfl)) dX1_learn_54 ⟨Nat.zero_le _, Nat.zero_le _⟩) hD hS hA rfl (fun H locs hP hD hS => ?_)
      have hP : va_P D clS [(od, .inr (1, [.int (nI n), .int (nI a), .int (nI (2 ^ n - 1 - a)), .ref og, .ref oy, .ref oz, .int (nI q), .int (nI d), .int (nI v), .ref ot])), (og, .inr (0, [.int (nI n), .int (nI a), .ref ob, .ref oe])), (ob, .inl (cI, (2 ^ n), .inl (fun jq => nI ((sd_br Y Z q) jq)))), (oe, .inl (cZ, (2 * 2 ^ n), .inl (fun jq => bI ((sd_ew n a (fun w => sd_br Y Z q w == 0)) jq)))), (oy, .inl (cI, 24, .inl (fun jq => nI (Y jq)))), (oz, .inl (cI, 24, .inl (fun jq => nI (Z jq)))), (ot, .inl (cI, n, .inl (sd_cv a (sd_Ts n a (fun w => sd_br Y Z q w == 0) T i) i (sd_ac (sd_li a (sd_bm n a (fun w => sd_br Y Z q w == 0)) i) n) n)))] H := hP
      have hD : va_D A [(od, .inr (1, [.int (nI n), .int (nI a), .int (nI (2 ^ n - 1 - a)), .ref og, .ref oy, .ref oz, .int (nI q), .int (nI d), .int (nI v), .ref ot])), (og, .inr (0, [.int (nI n), .int (nI a), .ref ob, .ref oe])), (ob, .inl (cI, (2 ^ n), .inl (fun jq => nI ((sd_br Y Z q) jq)))), (oe, .inl (cZ, (2 * 2 ^ n), .inl (fun jq => bI ((sd_ew n a (fun w => sd_br Y Z q w == 0)) jq)))), (oy, .inl (cI, 24, .inl (fun jq => nI (Y jq)))), (oz, .inl (cI, 24, .inl (fun jq => nI (Z jq)))), (ot, .inl (cI, n, .inl (sd_cv a (sd_Ts n a (fun w => sd_br Y Z q w == 0) T i) i (sd_ac (sd_li a (sd_bm n a (fun w => sd_br Y Z q w == 0)) i) n) n)))] := hD
      refine W.eq (g2 := F0 m 57 ls []) rfl ?_
      have hP : va_P D clS [(od, .inr (1, [.int (nI n), .int (nI a), .int (nI (2 ^ n - 1 - a)), .ref og, .ref oy, .ref oz, .int (nI q), .int (nI d), .int (nI v), .ref ot])), (og, .inr (0, [.int (nI n), .int (nI a), .ref ob, .ref oe])), (ob, .inl (cI, (2 ^ n), .inl (fun jq => nI ((sd_br Y Z q) jq)))), (oe, .inl (cZ, (2 * 2 ^ n), .inl (fun jq => bI ((sd_ew n a (fun w => sd_br Y Z q w == 0)) jq)))), (oy, .inl (cI, 24, .inl (fun jq => nI (Y jq)))), (oz, .inl (cI, 24, .inl (fun jq => nI (Z jq)))), (ot, .inl (cI, n, .inl (sd_Ts n a (fun w => sd_br Y Z q w == 0) T (i + 1))))] H := hw_cg hP (sd_Ts n a (fun w => sd_br Y Z q w == 0) T (i + 1)) (q0 := 6) rfl (fun j hj => sd_Ts_s hj) rfl
      have hD : va_D A [(od, .inr (1, [.int (nI n), .int (nI a), .int (nI (2 ^ n - 1 - a)), .ref og, .ref oy, .ref oz, .int (nI q), .int (nI d), .int (nI v), .ref ot])), (og, .inr (0, [.int (nI n), .int (nI a), .ref ob, .ref oe])), (ob, .inl (cI, (2 ^ n), .inl (fun jq => nI ((sd_br Y Z q) jq)))), (oe, .inl (cZ, (2 * 2 ^ n), .inl (fun jq => bI ((sd_ew n a (fun w => sd_br Y Z q w == 0)) jq)))), (oy, .inl (cI, 24, .inl (fun jq => nI (Y jq)))), (oz, .inl (cI, 24, .inl (fun jq => nI (Z jq)))), (ot, .inl (cI, n, .inl (sd_Ts n a (fun w => sd_br Y Z q w == 0) T (i + 1))))] := hw_ad hD rfl
      refine lv_iinc (k := 2) (v := nI (i + 1)) hx hb dX1_learn_57 hl rfl (hw_inc _) (by decide) rfl (fun ls hl => ?_)
      have hl : lv_has ls 3 [(2, .int (nI (i + 1))), (0, .ref od), (1, .int (nI (2 ^ sd_ct a n)))] := hl
      refine lv_goto (tgt := 34) hx hb dX1_learn_60 rfl ?_
      have hl : lv_has ls 3 [(0, .ref od), (1, .int (nI (2 ^ sd_ct a n))), (2, .int (nI (i + 1)))] := lv_sub hl [1, 2, 0] rfl
      exact ih2 (i + 1) ls H locs (by omega) hl hP hS
  | succ k ih =>
    intro i F ls H locs hi hF hl hP hS
    have hD : va_D A [(od, .inr (1, [.int (nI n), .int (nI a), .int (nI (2 ^ n - 1 - a)), .ref og, .ref oy, .ref oz, .int (nI q), .int (nI d), .int (nI v), .ref ot])), (og, .inr (0, [.int (nI n), .int (nI a), .ref ob, .ref oe])), (ob, .inl (cI, (2 ^ n), .inl (fun jq => nI ((sd_br Y Z q) jq)))), (oe, .inl (cZ, (2 * 2 ^ n), .inl (fun jq => bI ((sd_ew n a (fun w => sd_br Y Z q w == 0)) jq)))), (oy, .inl (cI, 24, .inl (fun jq => nI (Y jq)))), (oz, .inl (cI, 24, .inl (fun jq => nI (Z jq)))), (ot, .inl (cI, n, .inl F))] := hw_ad hD rfl
    refine lv_iload_n hx hb dX1_learn_2 rfl (lv_at hl 1 rfl) ?_
    refine lv_aload_n hx hb dX1_learn_3 rfl (lv_at hl 0 rfl) ?_
    refine va_get (D := D) (ci := 1) (v := .int (nI n)) (C := RX1) (T := TX1) (N := 10) hx hb ht inX1 hown hK hP 0 rfl rfl 0 (by decide) (ht _ wf_X1_size) (fun _ h9 => h9) rfl dX1_learn_4 ?_
    refine lv_icmp_ge (tgt := 23) hx hb dX1_learn_7 rfl (fun hc => absurd (show n ≤ i from (nI_leI (by omega) (by omega)).mp hc) (by omega)) (fun _ => ?_)
    refine lv_aload_n hx hb dX1_learn_10 rfl (lv_at hl 0 rfl) ?_
    refine va_get (D := D) (ci := 1) (v := .ref ot) (C := RX1) (T := TX1) (N := 10) hx hb ht inX1 hown hK hP 0 rfl rfl 9 (by decide) (ht _ wf_X1_tables) (fun _ h9 => h9) rfl dX1_learn_11 ?_
    refine lv_iload_n hx hb dX1_learn_14 rfl (lv_at hl 1 rfl) ?_
    refine lv_iconst (v := nI 0) hx hb dX1_learn_15 (by decide) ?_
    refine na_iast (f := F) (x := nI 0) hx hb hK hP hD hS 6 0 rfl rfl (j := i) (by omega) (by omega) dX1_learn_16 (fun H locs hP hD hS => ?_)
    have hP : va_P D clS [(od, .inr (1, [.int (nI n), .int (nI a), .int (nI (2 ^ n - 1 - a)), .ref og, .ref oy, .ref oz, .int (nI q), .int (nI d), .int (nI v), .ref ot])), (og, .inr (0, [.int (nI n), .int (nI a), .ref ob, .ref oe])), (ob, .inl (cI, (2 ^ n), .inl (fun jq => nI ((sd_br Y Z q) jq)))), (oe, .inl (cZ, (2 * 2 ^ n), .inl (fun jq => bI ((sd_ew n a (fun w => sd_br Y Z q w == 0)) jq)))), (oy, .inl (cI, 24, .inl (fun jq => nI (Y jq)))), (oz, .inl (cI, 24, .inl (fun jq => nI (Z jq)))), (ot, .inl (cI, n, .inl (upd F i (nI 0))))] H := hP
    have hD : va_D A [(od, .inr (1, [.int (nI n), .int (nI a), .int (nI (2 ^ n - 1 - a)), .ref og, .ref oy, .ref oz, .int (nI q), .int (nI d), .int (nI v), .ref ot])), (og, .inr (0, [.int (nI n), .int (nI a), .ref ob, .ref oe])), (ob, .inl (cI, (2 ^ n), .inl (fun jq => nI ((sd_br Y Z q) jq)))), (oe, .inl (cZ, (2 * 2 ^ n), .inl (fun jq => bI ((sd_ew n a (fun w => sd_br Y Z q w == 0)) jq)))), (oy, .inl (cI, 24, .inl (fun jq => nI (Y jq)))), (oz, .inl (cI, 24, .inl (fun jq => nI (Z jq)))), (ot, .inl (cI, n, .inl (upd F i (nI 0))))] := hD
    refine lv_iinc (k := 1) (v := nI (i + 1)) hx hb dX1_learn_17 hl rfl (hw_inc _) (by decide) rfl (fun ls hl => ?_)
    have hl : lv_has ls 3 [(1, .int (nI (i + 1))), (0, .ref od)] := hl
    refine lv_goto (tgt := 2) hx hb dX1_learn_20 rfl ?_
    have hl : lv_has ls 3 [(0, .ref od), (1, .int (nI (i + 1)))] := lv_sub hl [1, 0] rfl
    exact ih (i + 1) (upd F i (nI 0)) ls H locs (by omega) (fun j hj => (Nat.lt_or_ge j i).elim (fun h9 => (pk_un (by omega)).trans (hF j h9)) (fun h9 => by obtain rfl : j = i := (by omega); exact pk_us)) hl hP hS
end
section
/-! Contracts of the reference, StrategyDeskModel: what changes nothing, and fill. -/
theorem hw_andn {z w : Nat} (hz : z < 2 ^ 31) (hw : w < 2 ^ 31) : nI z &&& (nI w ^^^ (-1)) = 0 ↔ w &&& z = z := by
  have h1 : nI z &&& (nI w ^^^ (-1)) = 0 ↔ (BitVec.ofNat 32 z &&& ~~~ BitVec.ofNat 32 w) = 0#32 := by
    rw [← Int32.toBitVec_inj]
    have e : (nI z &&& (nI w ^^^ (-1))).toBitVec = BitVec.ofNat 32 z &&& (BitVec.ofNat 32 w ^^^ BitVec.allOnes 32) := rfl
    rw [e, BitVec.xor_allOnes]
    rfl
  rw [h1]
  have h2 : (w &&& z = z) ↔ BitVec.ofNat 32 w &&& BitVec.ofNat 32 z = BitVec.ofNat 32 z := by
    rw [← BitVec.ofNat_and]
    constructor
    · intro h
      rw [h]
    · intro h
      have h3 := congrArg BitVec.toNat h
      have h4 : w &&& z < 2 ^ 32 := Nat.lt_of_le_of_lt Nat.and_le_left (by omega)
      rwa [BitVec.toNat_ofNat, BitVec.toNat_ofNat, Nat.mod_eq_of_lt h4, Nat.mod_eq_of_lt (by omega)] at h3
  rw [h2]
  generalize BitVec.ofNat 32 z = zb
  generalize BitVec.ofNat 32 w = wb
  constructor
  · intro h
    apply BitVec.eq_of_getLsbD_eq
    intro i hi
    have h3 := congrArg (fun b => b.getLsbD i) h
    simp only [BitVec.getLsbD_and, BitVec.getLsbD_not, BitVec.getLsbD_zero, decide_eq_true hi, Bool.true_and] at h3
    rw [BitVec.getLsbD_and]
    revert h3
    generalize zb.getLsbD i = x
    generalize wb.getLsbD i = y
    revert x y
    decide
  · intro h
    apply BitVec.eq_of_getLsbD_eq
    intro i hi
    have h3 := congrArg (fun b => b.getLsbD i) h
    simp only [BitVec.getLsbD_and] at h3
    simp only [BitVec.getLsbD_and, BitVec.getLsbD_not, BitVec.getLsbD_zero, decide_eq_true hi, Bool.true_and]
    revert h3
    generalize zb.getLsbD i = x
    generalize wb.getLsbD i = y
    revert x y
    decide
theorem sd_M_cg {n A : Nat} {S S' : Nat → Bool} (h : ∀ w, w < 2 ^ n → S w = S' w) : ∀ k j, sd_M n A S k j = sd_M n A S' k j
  | 0, j => h _ (sd_on_lt n j n)
  | k + 1, j => by
    show sd_C _ _ _ = sd_C _ _ _
    rw [sd_M_cg h k, sd_M_cg h k]
theorem sd_wn_cg {n A : Nat} {S S' : Nat → Bool} (h : ∀ w, w < 2 ^ n → S w = S' w) : sd_wn n A S = sd_wn n A S' := by
  funext j
  unfold sd_wn
  by_cases h2 : j = 0 ∨ 2 * 2 ^ n ≤ j
  · rw [if_pos h2, if_pos h2]
  · rw [if_neg h2, if_neg h2, sd_M_cg h]
theorem sd_al_t1 {x s y : Bool} (h1 : x = true) (h2 : s = true) : true = (x && (s || y)) := by rw [h1, h2]; rfl
theorem sd_al_t2 {x s y : Bool} (h1 : x = true) (h2 : y = true) : true = (x && (s || y)) := by rw [h1, h2]; cases s <;> rfl
theorem sd_al_f1 {x s y : Bool} (h1 : x = false) : false = (x && (s || y)) := by rw [h1]; rfl
theorem sd_al_f2 {x s y : Bool} (h2 : s = false) (h3 : y = false) : false = (x && (s || y)) := by rw [h2, h3]; cases x <;> rfl
theorem hw_bn {b : Bool} (h : ¬ b = true) : b = false := by simpa using h
theorem sd_fl_t {y z w : Nat} (h1 : y &&& w = 0) (h2 : w &&& z = z) : sd_fl y z w = true := by
  unfold sd_fl
  rw [Nat.and_comm w y, h1, h2]
  simp
theorem sd_fl_f1 {y z w : Nat} (h1 : ¬ y &&& w = 0) : sd_fl y z w = false := by
  unfold sd_fl
  rw [Nat.and_comm w y, beq_false_of_ne h1, Bool.false_and]
theorem sd_fl_f2 {y z w : Nat} (h2 : ¬ w &&& z = z) : sd_fl y z w = false := by
  unfold sd_fl
  rw [beq_false_of_ne h2, Bool.and_false]

set_option maxHeartbeats 4000000 in
set_option maxRecDepth 100000 in
theorem m_holds (l : Launch) (D : va_G) (cI cZ : ClassId) (y z w : Nat) (hy : y < 2 ^ 31) (hz : z < 2 ^ 31) (hw : w < 2 ^ 31) : Met l yX2_holds (kX2_holds :: aW) { frames := 0, cells := 0, slots := 0, locals := 0 } (rPre [.int (nI y), .int (nI z), .int (nI w)] D [] [(cI, .int), (cZ, .boolean)]) (QcRead (bI (!sd_fl y z w))) 0 0 (fun _ => False) := by
  refine Met.ofW (cc := cX2_holds) (maxL := 3) (ret := (some .boolean)) (by decide) rfl ?_
  intro p e s m args below meth c s₁ Bo hml hpre
  obtain ⟨rfl, hP, hK, hN⟩ := hpre
  have hx := Bo.exec
  have hb := Bo.bytes
  have hr := Bo.returns
  have hts := atoms_spec (ws := kX2_holds :: aW) Bo.pre
  have ht : ∀ w ∈ aW, w.before _ s = true := fun w h => hts w (List.mem_cons_of_mem _ h)
  have hown : s.vm.findClass RX2 = some m.cls := findClass_of_methodNamed Bo.named
  have hlocks := Bo.notSynchronized
  have hP : va_P D clS [] s.heap := hP
  have hl := lv_entry ([.int (nI y), .int (nI z), .int (nI w)]) (n := 3) (Nat.le_of_ble_eq_true rfl)
  rw [lg_entry_eq]
  generalize (lg_sl ([.int (nI y), .int (nI z), .int (nI w)]) ++ List.replicate (3 - (lg_sl ([.int (nI y), .int (nI z), .int (nI w)])).length) Slot.unset).toArray = ls at hl ⊢
  have hl : lv_has ls 3 [(0, .int (nI y)), (1, .int (nI z)), (2, .int (nI w))] := hl
  have hyw : y &&& w < 2 ^ 31 := Nat.lt_of_le_of_lt Nat.and_le_left hy
  suffices mk : W p l e (headSpec (kX2_holds :: aW) { frames := 0, cells := 0, slots := 0, locals := 0 }).room s m (([.int (nI y), .int (nI z), .int (nI w)] : List Value).toArray) below meth c s.heap [] 0 0 (MQ below (QcRead (bI (!sd_fl y z w))) (([.int (nI y), .int (nI z), .int (nI w)] : List Value).toArray) s 0 0 (fun _ => False)) (F0 m 19 ls [.int (bI (!sd_fl y z w))]) by
    refine lv_iload_n hx hb dX2_holds_0 rfl (lv_at hl 0 rfl) ?_
    refine lv_iload_n hx hb dX2_holds_1 rfl (lv_at hl 2 rfl) ?_
    refine lv_iand hx hb dX2_holds_2 ?_
    refine lv_nm (y := nI (y &&& w)) (hw_and _ _) ?_
    refine lv_if_ne (tgt := 14) hx hb dX2_holds_3 rfl (fun h1 => ?_) (fun h1 => ?_)
    · have h1 : ¬ y &&& w = 0 := fun h9 => h1 ((nI_z (by omega)).mpr h9)
      refine lv_iconst (v := nI 1) hx hb dX2_holds_14 (by decide) ?_
      refine lv_goto (tgt := 19) hx hb dX2_holds_15 rfl ?_
      refine lv_nm (y := bI (!sd_fl y z w)) (hw_1.trans (congrArg bI (show true = (!sd_fl y z w) by first | (rw [sd_fl_t h1 ((hw_andn hz hw).mp h2)]; rfl) | (rw [sd_fl_f2 (fun h9 => h2 ((hw_andn hz hw).mpr h9))]; rfl) | (rw [sd_fl_f1 h1]; rfl)))) ?_
      exact mk
    · have h1 : y &&& w = 0 := (nI_z (by omega)).mp h1
      refine lv_iload_n hx hb dX2_holds_6 rfl (lv_at hl 1 rfl) ?_
      refine lv_iload_n hx hb dX2_holds_7 rfl (lv_at hl 2 rfl) ?_
      refine lv_iconst (v := (-1)) hx hb dX2_holds_8 (by decide) ?_
      refine lv_ixor hx hb dX2_holds_9 ?_
      refine lv_iand hx hb dX2_holds_10 ?_
      refine lv_if_eq (tgt := 18) hx hb dX2_holds_11 rfl (fun h2 => ?_) (fun h2 => ?_)
      · refine lv_iconst (v := nI 0) hx hb dX2_holds_18 (by decide) ?_
        refine lv_nm (y := bI (!sd_fl y z w)) (hw_0.trans (congrArg bI (show false = (!sd_fl y z w) by first | (rw [sd_fl_t h1 ((hw_andn hz hw).mp h2)]; rfl) | (rw [sd_fl_f2 (fun h9 => h2 ((hw_andn hz hw).mpr h9))]; rfl) | (rw [sd_fl_f1 h1]; rfl)))) ?_
        exact mk
      · refine lv_iconst (v := nI 1) hx hb dX2_holds_14 (by decide) ?_
        refine lv_goto (tgt := 19) hx hb dX2_holds_15 rfl ?_
        refine lv_nm (y := bI (!sd_fl y z w)) (hw_1.trans (congrArg bI (show true = (!sd_fl y z w) by first | (rw [sd_fl_t h1 ((hw_andn hz hw).mp h2)]; rfl) | (rw [sd_fl_f2 (fun h9 => h2 ((hw_andn hz hw).mpr h9))]; rfl) | (rw [sd_fl_f1 h1]; rfl)))) ?_
        exact mk
  exact W.zret hx hb hr (bI_nar _) (fun t ht2 _ => ⟨hw_ret (rfl), ht2⟩) (fun _ h => by cases h) dX2_holds_19

set_option maxHeartbeats 4000000 in
set_option maxRecDepth 100000 in
theorem m_variables (l : Launch) (D : va_G) (cI cZ : ClassId) (om my mz mv mt n a q d v u1 u2 : Nat) (kn mr : Bool) (sk : Int32) (Y Z : Nat → Nat) (T : Nat → Int32) (wn : Nat → Bool) (ok : dOk n a q d v Y Z) : Met l yX2_variables (kX2_variables :: aW) { frames := 0, cells := 0, slots := 0, locals := 0 } (rPre [.ref om] D [(om, .inr (2, [.int (nI n), .int (nI a), .int (nI q), .ref my, .ref mz, .int (bI kn), .int sk, .int (bI mr), .int (nI u1), .int (nI u2), .ref mv, .int (nI (sd_pos d v)), .int (nI d), .ref mt])), (my, .inl (cI, 24, .inl (fun jq => nI (Y jq)))), (mz, .inl (cI, 24, .inl (fun jq => nI (Z jq)))), (mv, .inl (cZ, 2048, .inl (fun jq => bI (wn jq)))), (mt, .inl (cI, 10, .inl T))] [(cI, .int), (cZ, .boolean)]) (QcRead (nI n)) 0 0 (fun _ => False) := by
  obtain ⟨hn1, hn, ha, h5, hq, hY, hZ, hd, hv⟩ := id ok
  have h2n := hw_p10 hn
  refine Met.ofW (cc := cX2_variables) (maxL := 1) (ret := (some .int)) (by decide) rfl ?_
  intro p e s m args below meth c s₁ Bo hml hpre
  obtain ⟨rfl, hP, hK, hN⟩ := hpre
  have hx := Bo.exec
  have hb := Bo.bytes
  have hr := Bo.returns
  have hts := atoms_spec (ws := kX2_variables :: aW) Bo.pre
  have ht : ∀ w ∈ aW, w.before _ s = true := fun w h => hts w (List.mem_cons_of_mem _ h)
  have hown : s.vm.findClass RX2 = some m.cls := findClass_of_methodNamed Bo.named
  have hlocks := Bo.notSynchronized
  have hP : va_P D clS [(om, .inr (2, [.int (nI n), .int (nI a), .int (nI q), .ref my, .ref mz, .int (bI kn), .int sk, .int (bI mr), .int (nI u1), .int (nI u2), .ref mv, .int (nI (sd_pos d v)), .int (nI d), .ref mt])), (my, .inl (cI, 24, .inl (fun jq => nI (Y jq)))), (mz, .inl (cI, 24, .inl (fun jq => nI (Z jq)))), (mv, .inl (cZ, 2048, .inl (fun jq => bI (wn jq)))), (mt, .inl (cI, 10, .inl T))] s.heap := hP
  have hl := lv_entry ([.ref om]) (n := 1) (Nat.le_of_ble_eq_true rfl)
  rw [lg_entry_eq]
  generalize (lg_sl ([.ref om]) ++ List.replicate (1 - (lg_sl ([.ref om])).length) Slot.unset).toArray = ls at hl ⊢
  have hl : lv_has ls 1 [(0, .ref om)] := hl
  refine lv_aload_n hx hb dX2_variables_0 rfl (lv_at hl 0 rfl) ?_
  refine va_get (D := D) (ci := 2) (v := .int (nI n)) (C := RX2) (T := TX2) (N := 14) hx hb ht inX2 hown hK hP 0 rfl rfl 0 (by decide) (ht _ wf_X2_n) (fun _ h9 => h9) rfl dX2_variables_1 ?_
  exact W.iret hx hb hr (fun t ht2 _ => ⟨hw_ret (rfl), ht2⟩) (fun _ h => by cases h) dX2_variables_4

set_option maxHeartbeats 4000000 in
set_option maxRecDepth 100000 in
theorem m_adams (l : Launch) (D : va_G) (cI cZ : ClassId) (om my mz mv mt n a q d v u1 u2 : Nat) (kn mr : Bool) (sk : Int32) (Y Z : Nat → Nat) (T : Nat → Int32) (wn : Nat → Bool) (ok : dOk n a q d v Y Z) : Met l yX2_adams (kX2_adams :: aW) { frames := 0, cells := 0, slots := 0, locals := 0 } (rPre [.ref om] D [(om, .inr (2, [.int (nI n), .int (nI a), .int (nI q), .ref my, .ref mz, .int (bI kn), .int sk, .int (bI mr), .int (nI u1), .int (nI u2), .ref mv, .int (nI (sd_pos d v)), .int (nI d), .ref mt])), (my, .inl (cI, 24, .inl (fun jq => nI (Y jq)))), (mz, .inl (cI, 24, .inl (fun jq => nI (Z jq)))), (mv, .inl (cZ, 2048, .inl (fun jq => bI (wn jq)))), (mt, .inl (cI, 10, .inl T))] [(cI, .int), (cZ, .boolean)]) (QcRead (nI a)) 0 0 (fun _ => False) := by
  obtain ⟨hn1, hn, ha, h5, hq, hY, hZ, hd, hv⟩ := id ok
  have h2n := hw_p10 hn
  refine Met.ofW (cc := cX2_adams) (maxL := 1) (ret := (some .int)) (by decide) rfl ?_
  intro p e s m args below meth c s₁ Bo hml hpre
  obtain ⟨rfl, hP, hK, hN⟩ := hpre
  have hx := Bo.exec
  have hb := Bo.bytes
  have hr := Bo.returns
  have hts := atoms_spec (ws := kX2_adams :: aW) Bo.pre
  have ht : ∀ w ∈ aW, w.before _ s = true := fun w h => hts w (List.mem_cons_of_mem _ h)
  have hown : s.vm.findClass RX2 = some m.cls := findClass_of_methodNamed Bo.named
  have hlocks := Bo.notSynchronized
  have hP : va_P D clS [(om, .inr (2, [.int (nI n), .int (nI a), .int (nI q), .ref my, .ref mz, .int (bI kn), .int sk, .int (bI mr), .int (nI u1), .int (nI u2), .ref mv, .int (nI (sd_pos d v)), .int (nI d), .ref mt])), (my, .inl (cI, 24, .inl (fun jq => nI (Y jq)))), (mz, .inl (cI, 24, .inl (fun jq => nI (Z jq)))), (mv, .inl (cZ, 2048, .inl (fun jq => bI (wn jq)))), (mt, .inl (cI, 10, .inl T))] s.heap := hP
  have hl := lv_entry ([.ref om]) (n := 1) (Nat.le_of_ble_eq_true rfl)
  rw [lg_entry_eq]
  generalize (lg_sl ([.ref om]) ++ List.replicate (1 - (lg_sl ([.ref om])).length) Slot.unset).toArray = ls at hl ⊢
  have hl : lv_has ls 1 [(0, .ref om)] := hl
  refine lv_aload_n hx hb dX2_adams_0 rfl (lv_at hl 0 rfl) ?_
  refine va_get (D := D) (ci := 2) (v := .int (nI a)) (C := RX2) (T := TX2) (N := 14) hx hb ht inX2 hown hK hP 0 rfl rfl 1 (by decide) (ht _ wf_X2_adam) (fun _ h9 => h9) rfl dX2_adams_1 ?_
  exact W.iret hx hb hr (fun t ht2 _ => ⟨hw_ret (rfl), ht2⟩) (fun _ h => by cases h) dX2_adams_4

set_option maxHeartbeats 4000000 in
set_option maxRecDepth 100000 in
theorem m_clauses (l : Launch) (D : va_G) (cI cZ : ClassId) (om my mz mv mt n a q d v u1 u2 : Nat) (kn mr : Bool) (sk : Int32) (Y Z : Nat → Nat) (T : Nat → Int32) (wn : Nat → Bool) (ok : dOk n a q d v Y Z) : Met l yX2_clauses (kX2_clauses :: aW) { frames := 0, cells := 0, slots := 0, locals := 0 } (rPre [.ref om] D [(om, .inr (2, [.int (nI n), .int (nI a), .int (nI q), .ref my, .ref mz, .int (bI kn), .int sk, .int (bI mr), .int (nI u1), .int (nI u2), .ref mv, .int (nI (sd_pos d v)), .int (nI d), .ref mt])), (my, .inl (cI, 24, .inl (fun jq => nI (Y jq)))), (mz, .inl (cI, 24, .inl (fun jq => nI (Z jq)))), (mv, .inl (cZ, 2048, .inl (fun jq => bI (wn jq)))), (mt, .inl (cI, 10, .inl T))] [(cI, .int), (cZ, .boolean)]) (QcRead (nI q)) 0 0 (fun _ => False) := by
  obtain ⟨hn1, hn, ha, h5, hq, hY, hZ, hd, hv⟩ := id ok
  have h2n := hw_p10 hn
  refine Met.ofW (cc := cX2_clauses) (maxL := 1) (ret := (some .int)) (by decide) rfl ?_
  intro p e s m args below meth c s₁ Bo hml hpre
  obtain ⟨rfl, hP, hK, hN⟩ := hpre
  have hx := Bo.exec
  have hb := Bo.bytes
  have hr := Bo.returns
  have hts := atoms_spec (ws := kX2_clauses :: aW) Bo.pre
  have ht : ∀ w ∈ aW, w.before _ s = true := fun w h => hts w (List.mem_cons_of_mem _ h)
  have hown : s.vm.findClass RX2 = some m.cls := findClass_of_methodNamed Bo.named
  have hlocks := Bo.notSynchronized
  have hP : va_P D clS [(om, .inr (2, [.int (nI n), .int (nI a), .int (nI q), .ref my, .ref mz, .int (bI kn), .int sk, .int (bI mr), .int (nI u1), .int (nI u2), .ref mv, .int (nI (sd_pos d v)), .int (nI d), .ref mt])), (my, .inl (cI, 24, .inl (fun jq => nI (Y jq)))), (mz, .inl (cI, 24, .inl (fun jq => nI (Z jq)))), (mv, .inl (cZ, 2048, .inl (fun jq => bI (wn jq)))), (mt, .inl (cI, 10, .inl T))] s.heap := hP
  have hl := lv_entry ([.ref om]) (n := 1) (Nat.le_of_ble_eq_true rfl)
  rw [lg_entry_eq]
  generalize (lg_sl ([.ref om]) ++ List.replicate (1 - (lg_sl ([.ref om])).length) Slot.unset).toArray = ls at hl ⊢
  have hl : lv_has ls 1 [(0, .ref om)] := hl
  refine lv_aload_n hx hb dX2_clauses_0 rfl (lv_at hl 0 rfl) ?_
  refine va_get (D := D) (ci := 2) (v := .int (nI q)) (C := RX2) (T := TX2) (N := 14) hx hb ht inX2 hown hK hP 0 rfl rfl 2 (by decide) (ht _ wf_X2_many) (fun _ h9 => h9) rfl dX2_clauses_1 ?_
  exact W.iret hx hb hr (fun t ht2 _ => ⟨hw_ret (rfl), ht2⟩) (fun _ h => by cases h) dX2_clauses_4

set_option maxHeartbeats 4000000 in
set_option maxRecDepth 100000 in
theorem m_played (l : Launch) (D : va_G) (cI cZ : ClassId) (om my mz mv mt n a q d v u1 u2 : Nat) (kn mr : Bool) (sk : Int32) (Y Z : Nat → Nat) (T : Nat → Int32) (wn : Nat → Bool) (ok : dOk n a q d v Y Z) : Met l yX2_played (kX2_played :: aW) { frames := 0, cells := 0, slots := 0, locals := 0 } (rPre [.ref om] D [(om, .inr (2, [.int (nI n), .int (nI a), .int (nI q), .ref my, .ref mz, .int (bI kn), .int sk, .int (bI mr), .int (nI u1), .int (nI u2), .ref mv, .int (nI (sd_pos d v)), .int (nI d), .ref mt])), (my, .inl (cI, 24, .inl (fun jq => nI (Y jq)))), (mz, .inl (cI, 24, .inl (fun jq => nI (Z jq)))), (mv, .inl (cZ, 2048, .inl (fun jq => bI (wn jq)))), (mt, .inl (cI, 10, .inl T))] [(cI, .int), (cZ, .boolean)]) (QcRead (nI d)) 0 0 (fun _ => False) := by
  obtain ⟨hn1, hn, ha, h5, hq, hY, hZ, hd, hv⟩ := id ok
  have h2n := hw_p10 hn
  refine Met.ofW (cc := cX2_played) (maxL := 1) (ret := (some .int)) (by decide) rfl ?_
  intro p e s m args below meth c s₁ Bo hml hpre
  obtain ⟨rfl, hP, hK, hN⟩ := hpre
  have hx := Bo.exec
  have hb := Bo.bytes
  have hr := Bo.returns
  have hts := atoms_spec (ws := kX2_played :: aW) Bo.pre
  have ht : ∀ w ∈ aW, w.before _ s = true := fun w h => hts w (List.mem_cons_of_mem _ h)
  have hown : s.vm.findClass RX2 = some m.cls := findClass_of_methodNamed Bo.named
  have hlocks := Bo.notSynchronized
  have hP : va_P D clS [(om, .inr (2, [.int (nI n), .int (nI a), .int (nI q), .ref my, .ref mz, .int (bI kn), .int sk, .int (bI mr), .int (nI u1), .int (nI u2), .ref mv, .int (nI (sd_pos d v)), .int (nI d), .ref mt])), (my, .inl (cI, 24, .inl (fun jq => nI (Y jq)))), (mz, .inl (cI, 24, .inl (fun jq => nI (Z jq)))), (mv, .inl (cZ, 2048, .inl (fun jq => bI (wn jq)))), (mt, .inl (cI, 10, .inl T))] s.heap := hP
  have hl := lv_entry ([.ref om]) (n := 1) (Nat.le_of_ble_eq_true rfl)
  rw [lg_entry_eq]
  generalize (lg_sl ([.ref om]) ++ List.replicate (1 - (lg_sl ([.ref om])).length) Slot.unset).toArray = ls at hl ⊢
  have hl : lv_has ls 1 [(0, .ref om)] := hl
  refine lv_aload_n hx hb dX2_played_0 rfl (lv_at hl 0 rfl) ?_
  refine va_get (D := D) (ci := 2) (v := .int (nI d)) (C := RX2) (T := TX2) (N := 14) hx hb ht inX2 hown hK hP 0 rfl rfl 12 (by decide) (ht _ wf_X2_set) (fun _ h9 => h9) rfl dX2_played_1 ?_
  exact W.iret hx hb hr (fun t ht2 _ => ⟨hw_ret (rfl), ht2⟩) (fun _ h => by cases h) dX2_played_4

set_option maxHeartbeats 4000000 in
set_option maxRecDepth 100000 in
theorem m_strange (l : Launch) (D : va_G) (cI cZ : ClassId) (om my mz mv mt n a q d v u1 u2 : Nat) (kn mr : Bool) (sk : Int32) (Y Z : Nat → Nat) (T : Nat → Int32) (wn : Nat → Bool) (ok : dOk n a q d v Y Z) (x : Int32) : Met l yX2_strange (kX2_strange :: aW) { frames := 0, cells := 0, slots := 0, locals := 0 } (rPre [.ref om, .int x] D [(om, .inr (2, [.int (nI n), .int (nI a), .int (nI q), .ref my, .ref mz, .int (bI kn), .int sk, .int (bI mr), .int (nI u1), .int (nI u2), .ref mv, .int (nI (sd_pos d v)), .int (nI d), .ref mt])), (my, .inl (cI, 24, .inl (fun jq => nI (Y jq)))), (mz, .inl (cI, 24, .inl (fun jq => nI (Z jq)))), (mv, .inl (cZ, 2048, .inl (fun jq => bI (wn jq)))), (mt, .inl (cI, 10, .inl T))] [(cI, .int), (cZ, .boolean)]) (QcRead (bI (!decide (uN x < 2 ^ n)))) 0 0 (fun _ => False) := by
  obtain ⟨hn1, hn, ha, h5, hq, hY, hZ, hd, hv⟩ := id ok
  have h2n := hw_p10 hn
  refine Met.ofW (cc := cX2_strange) (maxL := 2) (ret := (some .boolean)) (by decide) rfl ?_
  intro p e s m args below meth c s₁ Bo hml hpre
  obtain ⟨rfl, hP, hK, hN⟩ := hpre
  have hx := Bo.exec
  have hb := Bo.bytes
  have hr := Bo.returns
  have hts := atoms_spec (ws := kX2_strange :: aW) Bo.pre
  have ht : ∀ w ∈ aW, w.before _ s = true := fun w h => hts w (List.mem_cons_of_mem _ h)
  have hown : s.vm.findClass RX2 = some m.cls := findClass_of_methodNamed Bo.named
  have hlocks := Bo.notSynchronized
  have hP : va_P D clS [(om, .inr (2, [.int (nI n), .int (nI a), .int (nI q), .ref my, .ref mz, .int (bI kn), .int sk, .int (bI mr), .int (nI u1), .int (nI u2), .ref mv, .int (nI (sd_pos d v)), .int (nI d), .ref mt])), (my, .inl (cI, 24, .inl (fun jq => nI (Y jq)))), (mz, .inl (cI, 24, .inl (fun jq => nI (Z jq)))), (mv, .inl (cZ, 2048, .inl (fun jq => bI (wn jq)))), (mt, .inl (cI, 10, .inl T))] s.heap := hP
  have hl := lv_entry ([.ref om, .int x]) (n := 2) (Nat.le_of_ble_eq_true rfl)
  rw [lg_entry_eq]
  generalize (lg_sl ([.ref om, .int x]) ++ List.replicate (2 - (lg_sl ([.ref om, .int x])).length) Slot.unset).toArray = ls at hl ⊢
  have hl : lv_has ls 2 [(0, .ref om), (1, .int x)] := hl
  suffices mk : W p l e (headSpec (kX2_strange :: aW) { frames := 0, cells := 0, slots := 0, locals := 0 }).room s m (([.ref om, .int x] : List Value).toArray) below meth c s.heap [] 0 0 (MQ below (QcRead (bI (!decide (uN x < 2 ^ n)))) (([.ref om, .int x] : List Value).toArray) s 0 0 (fun _ => False)) (F0 m 19 ls [.int (bI (!decide (uN x < 2 ^ n)))]) by
    refine lv_iload_n hx hb dX2_strange_0 rfl (lv_at hl 1 rfl) ?_
    refine lv_if_lt (tgt := 14) hx hb dX2_strange_1 rfl (fun h1 => ?_) (fun h1 => ?_)
    · refine lv_iconst (v := nI 1) hx hb dX2_strange_14 (by decide) ?_
      refine lv_goto (tgt := 19) hx hb dX2_strange_15 rfl ?_
      refine lv_nm (y := bI (!decide (uN x < 2 ^ n))) (hw_1.trans (congrArg bI (show true = (!decide (uN x < 2 ^ n)) by first | (rw [decide_eq_true (hw_in' (by omega) h1 h2)]; rfl) | (rw [decide_eq_false (hw_big' (by omega) h2)]; rfl) | (rw [decide_eq_false (fun h9 => (hw_pos (n := 2 ^ n) (by omega) h9).1 h1)]; rfl)))) ?_
      exact mk
    · refine lv_iload_n hx hb dX2_strange_4 rfl (lv_at hl 1 rfl) ?_
      refine lv_iconst (v := nI 1) hx hb dX2_strange_5 (by decide) ?_
      refine lv_aload_n hx hb dX2_strange_6 rfl (lv_at hl 0 rfl) ?_
      refine va_get (D := D) (ci := 2) (v := .int (nI n)) (C := RX2) (T := TX2) (N := 14) hx hb ht inX2 hown hK hP 0 rfl rfl 0 (by decide) (ht _ wf_X2_n) (fun _ h9 => h9) rfl dX2_strange_7 ?_
      refine lv_ishl hx hb dX2_strange_10 ?_
      refine lv_nm (y := nI (2 ^ n)) (hw_shl1' (by omega)) ?_
      refine lv_icmp_lt (tgt := 18) hx hb dX2_strange_11 rfl (fun h2 => ?_) (fun h2 => ?_)
      · refine lv_iconst (v := nI 0) hx hb dX2_strange_18 (by decide) ?_
        refine lv_nm (y := bI (!decide (uN x < 2 ^ n))) (hw_0.trans (congrArg bI (show false = (!decide (uN x < 2 ^ n)) by first | (rw [decide_eq_true (hw_in' (by omega) h1 h2)]; rfl) | (rw [decide_eq_false (hw_big' (by omega) h2)]; rfl) | (rw [decide_eq_false (fun h9 => (hw_pos (n := 2 ^ n) (by omega) h9).1 h1)]; rfl)))) ?_
        exact mk
      · refine lv_iconst (v := nI 1) hx hb dX2_strange_14 (by decide) ?_
        refine lv_goto (tgt := 19) hx hb dX2_strange_15 rfl ?_
        refine lv_nm (y := bI (!decide (uN x < 2 ^ n))) (hw_1.trans (congrArg bI (show true = (!decide (uN x < 2 ^ n)) by first | (rw [decide_eq_true (hw_in' (by omega) h1 h2)]; rfl) | (rw [decide_eq_false (hw_big' (by omega) h2)]; rfl) | (rw [decide_eq_false (fun h9 => (hw_pos (n := 2 ^ n) (by omega) h9).1 h1)]; rfl)))) ?_
        exact mk
  exact W.zret hx hb hr (bI_nar _) (fun t ht2 _ => ⟨hw_ret (rfl), ht2⟩) (fun _ h => by cases h) dX2_strange_19

set_option maxHeartbeats 4000000 in
set_option maxRecDepth 100000 in
theorem m_noClause (l : Launch) (D : va_G) (cI cZ : ClassId) (om my mz mv mt n a q d v u1 u2 : Nat) (kn mr : Bool) (sk : Int32) (Y Z : Nat → Nat) (T : Nat → Int32) (wn : Nat → Bool) (ok : dOk n a q d v Y Z) (x : Int32) : Met l yX2_noClause (kX2_noClause :: aW) { frames := 0, cells := 0, slots := 0, locals := 0 } (rPre [.ref om, .int x] D [(om, .inr (2, [.int (nI n), .int (nI a), .int (nI q), .ref my, .ref mz, .int (bI kn), .int sk, .int (bI mr), .int (nI u1), .int (nI u2), .ref mv, .int (nI (sd_pos d v)), .int (nI d), .ref mt])), (my, .inl (cI, 24, .inl (fun jq => nI (Y jq)))), (mz, .inl (cI, 24, .inl (fun jq => nI (Z jq)))), (mv, .inl (cZ, 2048, .inl (fun jq => bI (wn jq)))), (mt, .inl (cI, 10, .inl T))] [(cI, .int), (cZ, .boolean)]) (QcRead (bI (!decide (uN x < q)))) 0 0 (fun _ => False) := by
  obtain ⟨hn1, hn, ha, h5, hq, hY, hZ, hd, hv⟩ := id ok
  have h2n := hw_p10 hn
  refine Met.ofW (cc := cX2_noClause) (maxL := 2) (ret := (some .boolean)) (by decide) rfl ?_
  intro p e s m args below meth c s₁ Bo hml hpre
  obtain ⟨rfl, hP, hK, hN⟩ := hpre
  have hx := Bo.exec
  have hb := Bo.bytes
  have hr := Bo.returns
  have hts := atoms_spec (ws := kX2_noClause :: aW) Bo.pre
  have ht : ∀ w ∈ aW, w.before _ s = true := fun w h => hts w (List.mem_cons_of_mem _ h)
  have hown : s.vm.findClass RX2 = some m.cls := findClass_of_methodNamed Bo.named
  have hlocks := Bo.notSynchronized
  have hP : va_P D clS [(om, .inr (2, [.int (nI n), .int (nI a), .int (nI q), .ref my, .ref mz, .int (bI kn), .int sk, .int (bI mr), .int (nI u1), .int (nI u2), .ref mv, .int (nI (sd_pos d v)), .int (nI d), .ref mt])), (my, .inl (cI, 24, .inl (fun jq => nI (Y jq)))), (mz, .inl (cI, 24, .inl (fun jq => nI (Z jq)))), (mv, .inl (cZ, 2048, .inl (fun jq => bI (wn jq)))), (mt, .inl (cI, 10, .inl T))] s.heap := hP
  have hl := lv_entry ([.ref om, .int x]) (n := 2) (Nat.le_of_ble_eq_true rfl)
  rw [lg_entry_eq]
  generalize (lg_sl ([.ref om, .int x]) ++ List.replicate (2 - (lg_sl ([.ref om, .int x])).length) Slot.unset).toArray = ls at hl ⊢
  have hl : lv_has ls 2 [(0, .ref om), (1, .int x)] := hl
  suffices mk : W p l e (headSpec (kX2_noClause :: aW) { frames := 0, cells := 0, slots := 0, locals := 0 }).room s m (([.ref om, .int x] : List Value).toArray) below meth c s.heap [] 0 0 (MQ below (QcRead (bI (!decide (uN x < q)))) (([.ref om, .int x] : List Value).toArray) s 0 0 (fun _ => False)) (F0 m 17 ls [.int (bI (!decide (uN x < q)))]) by
    refine lv_iload_n hx hb dX2_noClause_0 rfl (lv_at hl 1 rfl) ?_
    refine lv_if_lt (tgt := 12) hx hb dX2_noClause_1 rfl (fun h1 => ?_) (fun h1 => ?_)
    · refine lv_iconst (v := nI 1) hx hb dX2_noClause_12 (by decide) ?_
      refine lv_goto (tgt := 17) hx hb dX2_noClause_13 rfl ?_
      refine lv_nm (y := bI (!decide (uN x < q))) (hw_1.trans (congrArg bI (show true = (!decide (uN x < q)) by first | (rw [decide_eq_true (hw_in' (by omega) h1 h2)]; rfl) | (rw [decide_eq_false (hw_big' (by omega) h2)]; rfl) | (rw [decide_eq_false (fun h9 => (hw_pos (n := q) (by omega) h9).1 h1)]; rfl)))) ?_
      exact mk
    · refine lv_iload_n hx hb dX2_noClause_4 rfl (lv_at hl 1 rfl) ?_
      refine lv_aload_n hx hb dX2_noClause_5 rfl (lv_at hl 0 rfl) ?_
      refine va_get (D := D) (ci := 2) (v := .int (nI q)) (C := RX2) (T := TX2) (N := 14) hx hb ht inX2 hown hK hP 0 rfl rfl 2 (by decide) (ht _ wf_X2_many) (fun _ h9 => h9) rfl dX2_noClause_6 ?_
      refine lv_icmp_lt (tgt := 16) hx hb dX2_noClause_9 rfl (fun h2 => ?_) (fun h2 => ?_)
      · refine lv_iconst (v := nI 0) hx hb dX2_noClause_16 (by decide) ?_
        refine lv_nm (y := bI (!decide (uN x < q))) (hw_0.trans (congrArg bI (show false = (!decide (uN x < q)) by first | (rw [decide_eq_true (hw_in' (by omega) h1 h2)]; rfl) | (rw [decide_eq_false (hw_big' (by omega) h2)]; rfl) | (rw [decide_eq_false (fun h9 => (hw_pos (n := q) (by omega) h9).1 h1)]; rfl)))) ?_
        exact mk
      · refine lv_iconst (v := nI 1) hx hb dX2_noClause_12 (by decide) ?_
        refine lv_goto (tgt := 17) hx hb dX2_noClause_13 rfl ?_
        refine lv_nm (y := bI (!decide (uN x < q))) (hw_1.trans (congrArg bI (show true = (!decide (uN x < q)) by first | (rw [decide_eq_true (hw_in' (by omega) h1 h2)]; rfl) | (rw [decide_eq_false (hw_big' (by omega) h2)]; rfl) | (rw [decide_eq_false (fun h9 => (hw_pos (n := q) (by omega) h9).1 h1)]; rfl)))) ?_
        exact mk
  exact W.zret hx hb hr (bI_nar _) (fun t ht2 _ => ⟨hw_ret (rfl), ht2⟩) (fun _ h => by cases h) dX2_noClause_17

set_option maxHeartbeats 4000000 in
set_option maxRecDepth 100000 in
theorem m_isAdams (l : Launch) (D : va_G) (cI cZ : ClassId) (om my mz mv mt n a q d v u1 u2 : Nat) (kn mr : Bool) (sk : Int32) (Y Z : Nat → Nat) (T : Nat → Int32) (wn : Nat → Bool) (ok : dOk n a q d v Y Z) (i : Nat) (hi : i < 32) : Met l yX2_isAdams (kX2_isAdams :: aW) { frames := 0, cells := 0, slots := 0, locals := 0 } (rPre [.ref om, .int (nI i)] D [(om, .inr (2, [.int (nI n), .int (nI a), .int (nI q), .ref my, .ref mz, .int (bI kn), .int sk, .int (bI mr), .int (nI u1), .int (nI u2), .ref mv, .int (nI (sd_pos d v)), .int (nI d), .ref mt])), (my, .inl (cI, 24, .inl (fun jq => nI (Y jq)))), (mz, .inl (cI, 24, .inl (fun jq => nI (Z jq)))), (mv, .inl (cZ, 2048, .inl (fun jq => bI (wn jq)))), (mt, .inl (cI, 10, .inl T))] [(cI, .int), (cZ, .boolean)]) (QcRead (bI (a.testBit i))) 0 0 (fun _ => False) := by
  obtain ⟨hn1, hn, ha, h5, hq, hY, hZ, hd, hv⟩ := id ok
  have h2n := hw_p10 hn
  refine Met.ofW (cc := cX2_isAdams) (maxL := 2) (ret := (some .boolean)) (by decide) rfl ?_
  intro p e s m args below meth c s₁ Bo hml hpre
  obtain ⟨rfl, hP, hK, hN⟩ := hpre
  have hx := Bo.exec
  have hb := Bo.bytes
  have hr := Bo.returns
  have hts := atoms_spec (ws := kX2_isAdams :: aW) Bo.pre
  have ht : ∀ w ∈ aW, w.before _ s = true := fun w h => hts w (List.mem_cons_of_mem _ h)
  have hown : s.vm.findClass RX2 = some m.cls := findClass_of_methodNamed Bo.named
  have hlocks := Bo.notSynchronized
  have hP : va_P D clS [(om, .inr (2, [.int (nI n), .int (nI a), .int (nI q), .ref my, .ref mz, .int (bI kn), .int sk, .int (bI mr), .int (nI u1), .int (nI u2), .ref mv, .int (nI (sd_pos d v)), .int (nI d), .ref mt])), (my, .inl (cI, 24, .inl (fun jq => nI (Y jq)))), (mz, .inl (cI, 24, .inl (fun jq => nI (Z jq)))), (mv, .inl (cZ, 2048, .inl (fun jq => bI (wn jq)))), (mt, .inl (cI, 10, .inl T))] s.heap := hP
  have hl := lv_entry ([.ref om, .int (nI i)]) (n := 2) (Nat.le_of_ble_eq_true rfl)
  rw [lg_entry_eq]
  generalize (lg_sl ([.ref om, .int (nI i)]) ++ List.replicate (2 - (lg_sl ([.ref om, .int (nI i)])).length) Slot.unset).toArray = ls at hl ⊢
  have hl : lv_has ls 2 [(0, .ref om), (1, .int (nI i))] := hl
  refine lv_aload_n hx hb dX2_isAdams_0 rfl (lv_at hl 0 rfl) ?_
  refine va_get (D := D) (ci := 2) (v := .int (nI a)) (C := RX2) (T := TX2) (N := 14) hx hb ht inX2 hown hK hP 0 rfl rfl 1 (by decide) (ht _ wf_X2_adam) (fun _ h9 => h9) rfl dX2_isAdams_1 ?_
  refine lv_iload_n hx hb dX2_isAdams_4 rfl (lv_at hl 1 rfl) ?_
  refine lv_ishr hx hb dX2_isAdams_5 ?_
  refine lv_iconst (v := nI 1) hx hb dX2_isAdams_6 (by decide) ?_
  refine lv_iand hx hb dX2_isAdams_7 ?_
  refine lv_nm (y := bI ((uN (nI a)).testBit i)) (hw_sbit _ (by omega)) ?_
  refine lv_nm (y := bI (a.testBit i)) (congrArg bI (by rw [uN_nI (by omega)])) ?_
  refine lv_iconst (v := nI 1) hx hb dX2_isAdams_8 (by decide) ?_
  suffices mk : W p l e (headSpec (kX2_isAdams :: aW) { frames := 0, cells := 0, slots := 0, locals := 0 }).room s m (([.ref om, .int (nI i)] : List Value).toArray) below meth c s.heap [] 0 0 (MQ below (QcRead (bI (a.testBit i))) (([.ref om, .int (nI i)] : List Value).toArray) s 0 0 (fun _ => False)) (F0 m 17 ls [.int (bI (a.testBit i))]) by
    refine lv_icmp_ne (tgt := 16) hx hb dX2_isAdams_9 rfl (fun h1 => ?_) (fun h1 => ?_)
    · have h1 : (a.testBit i) = false := bI_ne1 h1
      refine lv_iconst (v := nI 0) hx hb dX2_isAdams_16 (by decide) ?_
      refine lv_nm (y := bI (a.testBit i)) (hw_0.trans (congrArg bI (show false = (a.testBit i) by rw [h1]))) ?_
      exact mk
    · have h1 : (a.testBit i) = true := (bI_eq1 _).mp h1
      refine lv_iconst (v := nI 1) hx hb dX2_isAdams_12 (by decide) ?_
      refine lv_goto (tgt := 17) hx hb dX2_isAdams_13 rfl ?_
      refine lv_nm (y := bI (a.testBit i)) (hw_1.trans (congrArg bI (show true = (a.testBit i) by rw [h1]))) ?_
      exact mk
  exact W.zret hx hb hr (bI_nar _) (fun t ht2 _ => ⟨hw_ret (rfl), ht2⟩) (fun _ h => by cases h) dX2_isAdams_17

set_option maxHeartbeats 4000000 in
set_option maxRecDepth 100000 in
theorem m_noEves (l : Launch) (D : va_G) (cI cZ : ClassId) (om my mz mv mt n a q d v u1 u2 : Nat) (kn mr : Bool) (sk : Int32) (Y Z : Nat → Nat) (T : Nat → Int32) (wn : Nat → Bool) (ok : dOk n a q d v Y Z) (x : Int32) : Met l yX2_noEves (kX2_noEves :: aW) { frames := 1, cells := 0, slots := 0, locals := 21 } (rPre [.ref om, .int x] D [(om, .inr (2, [.int (nI n), .int (nI a), .int (nI q), .ref my, .ref mz, .int (bI kn), .int sk, .int (bI mr), .int (nI u1), .int (nI u2), .ref mv, .int (nI (sd_pos d v)), .int (nI d), .ref mt])), (my, .inl (cI, 24, .inl (fun jq => nI (Y jq)))), (mz, .inl (cI, 24, .inl (fun jq => nI (Z jq)))), (mv, .inl (cZ, 2048, .inl (fun jq => bI (wn jq)))), (mt, .inl (cI, 10, .inl T))] [(cI, .int), (cZ, .boolean)]) (QcRead (bI (!(decide (uN x < n) && !a.testBit (uN x))))) 0 0 (fun _ => False) := by
  obtain ⟨hn1, hn, ha, h5, hq, hY, hZ, hd, hv⟩ := id ok
  have h2n := hw_p10 hn
  refine Met.ofW (cc := cX2_noEves) (maxL := 2) (ret := (some .boolean)) (by decide) rfl ?_
  intro p e s m args below meth c s₁ Bo hml hpre
  obtain ⟨rfl, hP, hK, hN⟩ := hpre
  have hx := Bo.exec
  have hb := Bo.bytes
  have hr := Bo.returns
  have hts := atoms_spec (ws := kX2_noEves :: aW) Bo.pre
  have ht : ∀ w ∈ aW, w.before _ s = true := fun w h => hts w (List.mem_cons_of_mem _ h)
  have hown : s.vm.findClass RX2 = some m.cls := findClass_of_methodNamed Bo.named
  have hlocks := Bo.notSynchronized
  have hP : va_P D clS [(om, .inr (2, [.int (nI n), .int (nI a), .int (nI q), .ref my, .ref mz, .int (bI kn), .int sk, .int (bI mr), .int (nI u1), .int (nI u2), .ref mv, .int (nI (sd_pos d v)), .int (nI d), .ref mt])), (my, .inl (cI, 24, .inl (fun jq => nI (Y jq)))), (mz, .inl (cI, 24, .inl (fun jq => nI (Z jq)))), (mv, .inl (cZ, 2048, .inl (fun jq => bI (wn jq)))), (mt, .inl (cI, 10, .inl T))] s.heap := hP
  have hl := lv_entry ([.ref om, .int x]) (n := 2) (Nat.le_of_ble_eq_true rfl)
  rw [lg_entry_eq]
  generalize (lg_sl ([.ref om, .int x]) ++ List.replicate (2 - (lg_sl ([.ref om, .int x])).length) Slot.unset).toArray = ls at hl ⊢
  have hl : lv_has ls 2 [(0, .ref om), (1, .int x)] := hl
  suffices mk : W p l e (headSpec (kX2_noEves :: aW) { frames := 1, cells := 0, slots := 0, locals := 21 }).room s m (([.ref om, .int x] : List Value).toArray) below meth c s.heap [] 0 0 (MQ below (QcRead (bI (!(decide (uN x < n) && !a.testBit (uN x))))) (([.ref om, .int x] : List Value).toArray) s 0 0 (fun _ => False)) (F0 m 25 ls [.int (bI (!(decide (uN x < n) && !a.testBit (uN x))))]) by
    refine lv_iload_n hx hb dX2_noEves_0 rfl (lv_at hl 1 rfl) ?_
    refine lv_if_lt (tgt := 20) hx hb dX2_noEves_1 rfl (fun h1 => ?_) (fun h1 => ?_)
    · refine lv_iconst (v := nI 1) hx hb dX2_noEves_20 (by decide) ?_
      refine lv_goto (tgt := 25) hx hb dX2_noEves_21 rfl ?_
      refine lv_nm (y := bI (!(decide (uN x < n) && !a.testBit (uN x)))) (hw_1.trans (congrArg bI (show true = (!(decide (uN x < n) && !a.testBit (uN x))) by first | (rw [decide_eq_true (hw_in (by omega) h1 h2), h3]; rfl) | (rw [decide_eq_false (hw_big (by omega) h2)]; rfl) | (rw [decide_eq_false (fun h9 => (hw_pos (n := n) (by omega) h9).1 h1)]; rfl)))) ?_
      exact mk
    · refine lv_iload_n hx hb dX2_noEves_4 rfl (lv_at hl 1 rfl) ?_
      refine lv_aload_n hx hb dX2_noEves_5 rfl (lv_at hl 0 rfl) ?_
      refine va_get (D := D) (ci := 2) (v := .int (nI n)) (C := RX2) (T := TX2) (N := 14) hx hb ht inX2 hown hK hP 0 rfl rfl 0 (by decide) (ht _ wf_X2_n) (fun _ h9 => h9) rfl dX2_noEves_6 ?_
      refine lv_icmp_ge (tgt := 20) hx hb dX2_noEves_9 rfl (fun h2 => ?_) (fun h2 => ?_)
      · refine lv_iconst (v := nI 1) hx hb dX2_noEves_20 (by decide) ?_
        refine lv_goto (tgt := 25) hx hb dX2_noEves_21 rfl ?_
        refine lv_nm (y := bI (!(decide (uN x < n) && !a.testBit (uN x)))) (hw_1.trans (congrArg bI (show true = (!(decide (uN x < n) && !a.testBit (uN x))) by first | (rw [decide_eq_true (hw_in (by omega) h1 h2), h3]; rfl) | (rw [decide_eq_false (hw_big (by omega) h2)]; rfl) | (rw [decide_eq_false (fun h9 => (hw_pos (n := n) (by omega) h9).1 h1)]; rfl)))) ?_
        exact mk
      · refine lv_aload_n hx hb dX2_noEves_12 rfl (lv_at hl 0 rfl) ?_
        refine lv_iload_n hx hb dX2_noEves_13 rfl (lv_at hl 1 rfl) ?_
        have hxn := hw_in (n := n) (by omega) h1 h2
        refine lv_nm (y := nI (uN x)) ((nI_uN x).symm) ?_
        refine hw_callR (va_runV (b := om) (As := [.int (nI (uN x))]) (rest := []) ⟨hx, hb, hml, hown, ht⟩ (m_isAdams l D cI cZ om my mz mv mt n a q d v u1 u2 kn mr sk Y Z T wn ok (uN x) (by omega)) (cwV 1 ht (gV wm_X2_X2_isAdams wi_X2_isAdams ws_X2_isAdams wn_X2 wc_X2_isAdams) rfl rfl rfl (by decide +kernel) ⟨Nat.le_of_ble_eq_true rfl, Nat.le_of_ble_eq_true rfl⟩) (rPre_V 0 hP hK hN rfl rfl) rfl rfl hl.1 rfl (lv_room (Nat.le_of_ble_eq_true rfl)) dX2_noEves_14 ⟨Nat.zero_le _, Nat.zero_le _⟩) ?_
        refine lv_if_eq (tgt := 24) hx hb dX2_noEves_17 rfl (fun h3 => ?_) (fun h3 => ?_)
        · have h3 : (a.testBit (uN x)) = false := (bI_eq0 _).mp h3
          refine lv_iconst (v := nI 0) hx hb dX2_noEves_24 (by decide) ?_
          refine lv_nm (y := bI (!(decide (uN x < n) && !a.testBit (uN x)))) (hw_0.trans (congrArg bI (show false = (!(decide (uN x < n) && !a.testBit (uN x))) by first | (rw [decide_eq_true (hw_in (by omega) h1 h2), h3]; rfl) | (rw [decide_eq_false (hw_big (by omega) h2)]; rfl) | (rw [decide_eq_false (fun h9 => (hw_pos (n := n) (by omega) h9).1 h1)]; rfl)))) ?_
          exact mk
        · have h3 : (a.testBit (uN x)) = true := bI_ne0 h3
          refine lv_iconst (v := nI 1) hx hb dX2_noEves_20 (by decide) ?_
          refine lv_goto (tgt := 25) hx hb dX2_noEves_21 rfl ?_
          refine lv_nm (y := bI (!(decide (uN x < n) && !a.testBit (uN x)))) (hw_1.trans (congrArg bI (show true = (!(decide (uN x < n) && !a.testBit (uN x))) by first | (rw [decide_eq_true (hw_in (by omega) h1 h2), h3]; rfl) | (rw [decide_eq_false (hw_big (by omega) h2)]; rfl) | (rw [decide_eq_false (fun h9 => (hw_pos (n := n) (by omega) h9).1 h1)]; rfl)))) ?_
          exact mk
  exact W.zret hx hb hr (bI_nar _) (fun t ht2 _ => ⟨hw_ret (rfl), ht2⟩) (fun _ h => by cases h) dX2_noEves_25

set_option maxHeartbeats 4000000 in
set_option maxRecDepth 100000 in
theorem m_before (l : Launch) (D : va_G) (cI cZ : ClassId) (om my mz mv mt n a q d v u1 u2 : Nat) (kn mr : Bool) (sk : Int32) (Y Z : Nat → Nat) (T : Nat → Int32) (wn : Nat → Bool) (ok : dOk n a q d v Y Z) (j : Nat) (hj : j ≤ n) : Met l yX2_before (kX2_before :: aW) { frames := 1, cells := 0, slots := 0, locals := 21 } (rPre [.ref om, .int (nI j)] D [(om, .inr (2, [.int (nI n), .int (nI a), .int (nI q), .ref my, .ref mz, .int (bI kn), .int sk, .int (bI mr), .int (nI u1), .int (nI u2), .ref mv, .int (nI (sd_pos d v)), .int (nI d), .ref mt])), (my, .inl (cI, 24, .inl (fun jq => nI (Y jq)))), (mz, .inl (cI, 24, .inl (fun jq => nI (Z jq)))), (mv, .inl (cZ, 2048, .inl (fun jq => bI (wn jq)))), (mt, .inl (cI, 10, .inl T))] [(cI, .int), (cZ, .boolean)]) (QcRead (nI (sd_ct a j))) 0 0 (fun _ => False) := by
  obtain ⟨hn1, hn, ha, h5, hq, hY, hZ, hd, hv⟩ := id ok
  have h2n := hw_p10 hn
  refine Met.ofW (cc := cX2_before) (maxL := 4) (ret := (some .int)) (by decide) rfl ?_
  intro p e s m args below meth c s₁ Bo hml hpre
  obtain ⟨rfl, hP, hK, hN⟩ := hpre
  have hx := Bo.exec
  have hb := Bo.bytes
  have hr := Bo.returns
  have hts := atoms_spec (ws := kX2_before :: aW) Bo.pre
  have ht : ∀ w ∈ aW, w.before _ s = true := fun w h => hts w (List.mem_cons_of_mem _ h)
  have hown : s.vm.findClass RX2 = some m.cls := findClass_of_methodNamed Bo.named
  have hlocks := Bo.notSynchronized
  have hP : va_P D clS [(om, .inr (2, [.int (nI n), .int (nI a), .int (nI q), .ref my, .ref mz, .int (bI kn), .int sk, .int (bI mr), .int (nI u1), .int (nI u2), .ref mv, .int (nI (sd_pos d v)), .int (nI d), .ref mt])), (my, .inl (cI, 24, .inl (fun jq => nI (Y jq)))), (mz, .inl (cI, 24, .inl (fun jq => nI (Z jq)))), (mv, .inl (cZ, 2048, .inl (fun jq => bI (wn jq)))), (mt, .inl (cI, 10, .inl T))] s.heap := hP
  have hl := lv_entry ([.ref om, .int (nI j)]) (n := 4) (Nat.le_of_ble_eq_true rfl)
  rw [lg_entry_eq]
  generalize (lg_sl ([.ref om, .int (nI j)]) ++ List.replicate (4 - (lg_sl ([.ref om, .int (nI j)])).length) Slot.unset).toArray = ls at hl ⊢
  have hl : lv_has ls 4 [(0, .ref om), (1, .int (nI j))] := hl
  refine lv_iconst (v := nI 0) hx hb dX2_before_0 (by decide) ?_
  refine lv_istore_n hx hb dX2_before_1 rfl hl (by decide) rfl (fun ls hl => ?_)
  have hl : lv_has ls 4 [(2, .int (nI 0)), (0, .ref om), (1, .int (nI j))] := hl
  refine lv_iconst (v := nI 0) hx hb dX2_before_2 (by decide) ?_
  refine lv_istore_n hx hb dX2_before_3 rfl hl (by decide) rfl (fun ls hl => ?_)
  have hl : lv_has ls 4 [(3, .int (nI 0)), (2, .int (nI 0)), (0, .ref om), (1, .int (nI j))] := hl
  have hl : lv_has ls 4 [(0, .ref om), (1, .int (nI j)), (2, .int (nI 0)), (3, .int (nI 0))] := lv_sub hl [2, 3, 1, 0] rfl
  suffices lp : ∀ k : Nat, ∀ (i : Nat) (ls : Array Slot), (i + k = j) → lv_has ls 4 [(0, .ref om), (1, .int (nI j)), (2, .int (nI (sd_ct a i))), (3, .int (nI i))] → W p l e (headSpec (kX2_before :: aW) { frames := 1, cells := 0, slots := 0, locals := 21 }).room s m (([.ref om, .int (nI j)] : List Value).toArray) below meth c s.heap [] 0 0 (MQ below (QcRead (nI (sd_ct a j))) (([.ref om, .int (nI j)] : List Value).toArray) s 0 0 (fun _ => False)) (F0 m 4 ls []) by
    exact lp j 0 ls (by omega) hl
  intro k
  induction k with
  | zero =>
    intro i ls hi hl
    refine lv_iload_n hx hb dX2_before_4 rfl (lv_at hl 3 rfl) ?_
    refine lv_iload_n hx hb dX2_before_5 rfl (lv_at hl 1 rfl) ?_
    refine lv_icmp_ge (tgt := 31) hx hb dX2_before_6 rfl (fun _ => ?_) (fun hc => absurd (show ¬ (j ≤ i) from fun h9 => hc ((nI_leI (by omega) (by omega)).mpr h9)) (by omega))
    refine lv_iload_n hx hb dX2_before_31 rfl (lv_at hl 2 rfl) ?_
    exact W.iret hx hb hr (fun t ht2 _ => ⟨hw_ret (by rw [show i = j by omega]), ht2⟩) (fun _ h => by cases h) dX2_before_32
  | succ k ih =>
    intro i ls hi hl
    have hci := sd_ct_le a i
    refine lv_iload_n hx hb dX2_before_4 rfl (lv_at hl 3 rfl) ?_
    refine lv_iload_n hx hb dX2_before_5 rfl (lv_at hl 1 rfl) ?_
    refine lv_icmp_ge (tgt := 31) hx hb dX2_before_6 rfl (fun hc => absurd (show j ≤ i from (nI_leI (by omega) (by omega)).mp hc) (by omega)) (fun _ => ?_)
    refine lv_aload_n hx hb dX2_before_9 rfl (lv_at hl 0 rfl) ?_
    refine lv_iload_n hx hb dX2_before_10 rfl (lv_at hl 3 rfl) ?_
    refine hw_callR (va_runV (b := om) (As := [.int (nI i)]) (rest := []) ⟨hx, hb, hml, hown, ht⟩ (m_isAdams l D cI cZ om my mz mv mt n a q d v u1 u2 kn mr sk Y Z T wn ok i (by omega)) (cwV 1 ht (gV wm_X2_X2_isAdams wi_X2_isAdams ws_X2_isAdams wn_X2 wc_X2_isAdams) rfl rfl rfl (by decide +kernel) ⟨Nat.le_of_ble_eq_true rfl, Nat.le_of_ble_eq_true rfl⟩) (rPre_V 0 hP hK hN rfl rfl) rfl rfl hl.1 rfl (lv_room (Nat.le_of_ble_eq_true rfl)) dX2_before_11 ⟨Nat.zero_le _, Nat.zero_le _⟩) ?_
    suffices mk : W p l e (headSpec (kX2_before :: aW) { frames := 1, cells := 0, slots := 0, locals := 21 }).room s m (([.ref om, .int (nI j)] : List Value).toArray) below meth c s.heap [] 0 0 (MQ below (QcRead (nI (sd_ct a j))) (([.ref om, .int (nI j)] : List Value).toArray) s 0 0 (fun _ => False)) (F0 m 24 ls [.int (nI (sd_ct a (i + 1)))]) by
      refine lv_if_eq (tgt := 23) hx hb dX2_before_14 rfl (fun h1 => ?_) (fun h1 => ?_)
      · have h1 : (a.testBit i) = false := (bI_eq0 _).mp h1
        refine lv_iload_n hx hb dX2_before_23 rfl (lv_at hl 2 rfl) ?_
        refine lv_nm (y := nI (sd_ct a (i + 1))) (congrArg nI (by show _ = sd_ct a i + (a.testBit i).toNat; rw [h1]; rfl)) ?_
        exact mk
      · have h1 : (a.testBit i) = true := bI_ne0 h1
        refine lv_iload_n hx hb dX2_before_17 rfl (lv_at hl 2 rfl) ?_
        refine lv_iconst (v := nI 1) hx hb dX2_before_18 (by decide) ?_
        refine lv_iadd hx hb dX2_before_19 ?_
        refine lv_nm (y := nI ((sd_ct a i) + 1)) (nI_add _ _) ?_
        refine lv_nm (y := nI (sd_ct a (i + 1))) (congrArg nI (by show _ = sd_ct a i + (a.testBit i).toNat; rw [h1]; rfl)) ?_
        refine lv_goto (tgt := 24) hx hb dX2_before_20 rfl ?_
        exact mk
    refine lv_istore_n hx hb dX2_before_24 rfl hl (by decide) rfl (fun ls hl => ?_)
    have hl : lv_has ls 4 [(2, .int (nI (sd_ct a (i + 1)))), (0, .ref om), (1, .int (nI j)), (3, .int (nI i))] := hl
    refine lv_iinc (k := 3) (v := nI (i + 1)) hx hb dX2_before_25 hl rfl (hw_inc _) (by decide) rfl (fun ls hl => ?_)
    have hl : lv_has ls 4 [(3, .int (nI (i + 1))), (2, .int (nI (sd_ct a (i + 1)))), (0, .ref om), (1, .int (nI j))] := hl
    refine lv_goto (tgt := 4) hx hb dX2_before_28 rfl ?_
    have hl : lv_has ls 4 [(0, .ref om), (1, .int (nI j)), (2, .int (nI (sd_ct a (i + 1)))), (3, .int (nI (i + 1)))] := lv_sub hl [2, 3, 1, 0] rfl
    exact ih (i + 1) ls (by omega) hl

set_option maxHeartbeats 4000000 in
set_option maxRecDepth 100000 in
theorem m_allHold (l : Launch) (D : va_G) (cI cZ : ClassId) (om my mz mv mt n a q d v u1 u2 : Nat) (kn mr : Bool) (sk : Int32) (Y Z : Nat → Nat) (T : Nat → Int32) (wn : Nat → Bool) (ok : dOk n a q d v Y Z) (w : Nat) (skf : Nat → Bool) (hw : w < 2 ^ n) (hu1 : u1 < 2 ^ n) (hu2 : u2 < 2 ^ n) (hsk : ∀ i, i < 24 → (nI i = sk ↔ skf i = true)) : Met l yX2_allHold (kX2_allHold :: aW) { frames := 1, cells := 0, slots := 0, locals := 22 } (rPre [.ref om, .int (nI w)] D [(om, .inr (2, [.int (nI n), .int (nI a), .int (nI q), .ref my, .ref mz, .int (bI kn), .int sk, .int (bI mr), .int (nI u1), .int (nI u2), .ref mv, .int (nI (sd_pos d v)), .int (nI d), .ref mt])), (my, .inl (cI, 24, .inl (fun jq => nI (Y jq)))), (mz, .inl (cI, 24, .inl (fun jq => nI (Z jq)))), (mv, .inl (cZ, 2048, .inl (fun jq => bI (wn jq)))), (mt, .inl (cI, 10, .inl T))] [(cI, .int), (cZ, .boolean)]) (QcRead (bI (sd_al Y Z skf (!mr || !sd_fl u1 u2 w) w q))) 0 0 (fun _ => False) := by
  obtain ⟨hn1, hn, ha, h5, hq, hY, hZ, hd, hv⟩ := id ok
  have h2n := hw_p10 hn
  refine Met.ofW (cc := cX2_allHold) (maxL := 4) (ret := (some .boolean)) (by decide) rfl ?_
  intro p e s m args below meth c s₁ Bo hml hpre
  obtain ⟨rfl, hP, hK, hN⟩ := hpre
  have hx := Bo.exec
  have hb := Bo.bytes
  have hr := Bo.returns
  have hts := atoms_spec (ws := kX2_allHold :: aW) Bo.pre
  have ht : ∀ w ∈ aW, w.before _ s = true := fun w h => hts w (List.mem_cons_of_mem _ h)
  have hown : s.vm.findClass RX2 = some m.cls := findClass_of_methodNamed Bo.named
  have hlocks := Bo.notSynchronized
  have hP : va_P D clS [(om, .inr (2, [.int (nI n), .int (nI a), .int (nI q), .ref my, .ref mz, .int (bI kn), .int sk, .int (bI mr), .int (nI u1), .int (nI u2), .ref mv, .int (nI (sd_pos d v)), .int (nI d), .ref mt])), (my, .inl (cI, 24, .inl (fun jq => nI (Y jq)))), (mz, .inl (cI, 24, .inl (fun jq => nI (Z jq)))), (mv, .inl (cZ, 2048, .inl (fun jq => bI (wn jq)))), (mt, .inl (cI, 10, .inl T))] s.heap := hP
  have hl := lv_entry ([.ref om, .int (nI w)]) (n := 4) (Nat.le_of_ble_eq_true rfl)
  rw [lg_entry_eq]
  generalize (lg_sl ([.ref om, .int (nI w)]) ++ List.replicate (4 - (lg_sl ([.ref om, .int (nI w)])).length) Slot.unset).toArray = ls at hl ⊢
  have hl : lv_has ls 4 [(0, .ref om), (1, .int (nI w))] := hl
  suffices mk : W p l e (headSpec (kX2_allHold :: aW) { frames := 1, cells := 0, slots := 0, locals := 22 }).room s m (([.ref om, .int (nI w)] : List Value).toArray) below meth c s.heap [] 0 0 (MQ below (QcRead (bI (sd_al Y Z skf (!mr || !sd_fl u1 u2 w) w q))) (([.ref om, .int (nI w)] : List Value).toArray) s 0 0 (fun _ => False)) (F0 m 27 ls [.int (bI (!mr || !sd_fl u1 u2 w))]) by
    refine lv_aload_n hx hb dX2_allHold_0 rfl (lv_at hl 0 rfl) ?_
    refine va_get (D := D) (ci := 2) (v := .int (bI mr)) (C := RX2) (T := TX2) (N := 14) hx hb ht inX2 hown hK hP 0 rfl rfl 7 (by decide) (ht _ wf_X2_more) (fun _ h9 => h9) rfl dX2_allHold_1 ?_
    refine lv_if_eq (tgt := 22) hx hb dX2_allHold_4 rfl (fun h1 => ?_) (fun h1 => ?_)
    · have h1 : mr = false := (bI_eq0 _).mp h1
      refine lv_iconst (v := nI 1) hx hb dX2_allHold_22 (by decide) ?_
      refine lv_goto (tgt := 27) hx hb dX2_allHold_23 rfl ?_
      refine lv_nm (y := bI (!mr || !sd_fl u1 u2 w)) (hw_1.trans (congrArg bI (show true = (!mr || !sd_fl u1 u2 w) by first | (rw [h1, h2]; rfl) | (rw [h1]; rfl)))) ?_
      exact mk
    · have h1 : mr = true := bI_ne0 h1
      refine lv_aload_n hx hb dX2_allHold_7 rfl (lv_at hl 0 rfl) ?_
      refine va_get (D := D) (ci := 2) (v := .int (nI u1)) (C := RX2) (T := TX2) (N := 14) hx hb ht inX2 hown hK hP 0 rfl rfl 8 (by decide) (ht _ wf_X2_moreYes) (fun _ h9 => h9) rfl dX2_allHold_8 ?_
      refine lv_aload_n hx hb dX2_allHold_11 rfl (lv_at hl 0 rfl) ?_
      refine va_get (D := D) (ci := 2) (v := .int (nI u2)) (C := RX2) (T := TX2) (N := 14) hx hb ht inX2 hown hK hP 0 rfl rfl 9 (by decide) (ht _ wf_X2_moreNo) (fun _ h9 => h9) rfl dX2_allHold_12 ?_
      refine lv_iload_n hx hb dX2_allHold_15 rfl (lv_at hl 1 rfl) ?_
      refine hw_callR (va_runS (As := [.int (nI u1), .int (nI u2), .int (nI w)]) (rest := []) ⟨hx, hb, hml, hown, ht⟩ (m_holds l D cI cZ u1 u2 w (by omega) (by omega) (by omega)) (va_cwS 3 ht (gS wm_X2_X2_holds wt_X2_holds wn_X2 wc_X2_holds) rfl rfl rfl (by decide +kernel) ⟨Nat.le_of_ble_eq_true rfl, Nat.le_of_ble_eq_true rfl⟩) (rPre_S (hP.sub [] rfl) hK hN) rfl rfl hl.1 rfl (lv_room (Nat.le_of_ble_eq_true rfl)) dX2_allHold_16 ⟨Nat.zero_le _, Nat.zero_le _⟩) ?_
      refine lv_if_eq (tgt := 26) hx hb dX2_allHold_19 rfl (fun h2 => ?_) (fun h2 => ?_)
      · have h2 : (!sd_fl u1 u2 w) = false := (bI_eq0 _).mp h2
        refine lv_iconst (v := nI 0) hx hb dX2_allHold_26 (by decide) ?_
        refine lv_nm (y := bI (!mr || !sd_fl u1 u2 w)) (hw_0.trans (congrArg bI (show false = (!mr || !sd_fl u1 u2 w) by first | (rw [h1, h2]; rfl) | (rw [h1]; rfl)))) ?_
        exact mk
      · have h2 : (!sd_fl u1 u2 w) = true := bI_ne0 h2
        refine lv_iconst (v := nI 1) hx hb dX2_allHold_22 (by decide) ?_
        refine lv_goto (tgt := 27) hx hb dX2_allHold_23 rfl ?_
        refine lv_nm (y := bI (!mr || !sd_fl u1 u2 w)) (hw_1.trans (congrArg bI (show true = (!mr || !sd_fl u1 u2 w) by first | (rw [h1, h2]; rfl) | (rw [h1]; rfl)))) ?_
        exact mk
  refine lv_istore_n hx hb dX2_allHold_27 rfl hl (by decide) rfl (fun ls hl => ?_)
  have hl : lv_has ls 4 [(2, .int (bI (!mr || !sd_fl u1 u2 w))), (0, .ref om), (1, .int (nI w))] := hl
  refine lv_iconst (v := nI 0) hx hb dX2_allHold_28 (by decide) ?_
  refine lv_istore_n hx hb dX2_allHold_29 rfl hl (by decide) rfl (fun ls hl => ?_)
  have hl : lv_has ls 4 [(3, .int (nI 0)), (2, .int (bI (!mr || !sd_fl u1 u2 w))), (0, .ref om), (1, .int (nI w))] := hl
  have hl : lv_has ls 4 [(0, .ref om), (1, .int (nI w)), (2, .int (bI (!mr || !sd_fl u1 u2 w))), (3, .int (nI 0))] := lv_sub hl [2, 3, 1, 0] rfl
  suffices lp : ∀ k : Nat, ∀ (i : Nat) (ls : Array Slot), (i + k = q) → lv_has ls 4 [(0, .ref om), (1, .int (nI w)), (2, .int (bI (sd_al Y Z skf (!mr || !sd_fl u1 u2 w) w i))), (3, .int (nI i))] → W p l e (headSpec (kX2_allHold :: aW) { frames := 1, cells := 0, slots := 0, locals := 22 }).room s m (([.ref om, .int (nI w)] : List Value).toArray) below meth c s.heap [] 0 0 (MQ below (QcRead (bI (sd_al Y Z skf (!mr || !sd_fl u1 u2 w) w q))) (([.ref om, .int (nI w)] : List Value).toArray) s 0 0 (fun _ => False)) (F0 m 30 ls []) by
    exact lp q 0 ls (by omega) hl
  intro k
  induction k with
  | zero =>
    intro i ls hi hl
    refine lv_iload_n hx hb dX2_allHold_30 rfl (lv_at hl 3 rfl) ?_
    refine lv_aload_n hx hb dX2_allHold_31 rfl (lv_at hl 0 rfl) ?_
    refine va_get (D := D) (ci := 2) (v := .int (nI q)) (C := RX2) (T := TX2) (N := 14) hx hb ht inX2 hown hK hP 0 rfl rfl 2 (by decide) (ht _ wf_X2_many) (fun _ h9 => h9) rfl dX2_allHold_32 ?_
    refine lv_icmp_ge (tgt := 81) hx hb dX2_allHold_35 rfl (fun _ => ?_) (fun hc => absurd (show ¬ (q ≤ i) from fun h9 => hc ((nI_leI (by omega) (by omega)).mpr h9)) (by omega))
    refine lv_iload_n hx hb dX2_allHold_81 rfl (lv_at hl 2 rfl) ?_
    exact W.zret hx hb hr (bI_nar _) (fun t ht2 _ => ⟨hw_ret (by rw [show i = q by omega]), ht2⟩) (fun _ h => by cases h) dX2_allHold_82
  | succ k ih =>
    intro i ls hi hl
    have hYi := hY i
    have hZi := hZ i
    have hski := hsk i (by omega)
    refine lv_iload_n hx hb dX2_allHold_30 rfl (lv_at hl 3 rfl) ?_
    refine lv_aload_n hx hb dX2_allHold_31 rfl (lv_at hl 0 rfl) ?_
    refine va_get (D := D) (ci := 2) (v := .int (nI q)) (C := RX2) (T := TX2) (N := 14) hx hb ht inX2 hown hK hP 0 rfl rfl 2 (by decide) (ht _ wf_X2_many) (fun _ h9 => h9) rfl dX2_allHold_32 ?_
    refine lv_icmp_ge (tgt := 81) hx hb dX2_allHold_35 rfl (fun hc => absurd (show q ≤ i from (nI_leI (by omega) (by omega)).mp hc) (by omega)) (fun _ => ?_)
    refine lv_iload_n hx hb dX2_allHold_38 rfl (lv_at hl 2 rfl) ?_
    suffices mk : W p l e (headSpec (kX2_allHold :: aW) { frames := 1, cells := 0, slots := 0, locals := 22 }).room s m (([.ref om, .int (nI w)] : List Value).toArray) below meth c s.heap [] 0 0 (MQ below (QcRead (bI (sd_al Y Z skf (!mr || !sd_fl u1 u2 w) w q))) (([.ref om, .int (nI w)] : List Value).toArray) s 0 0 (fun _ => False)) (F0 m 74 ls [.int (bI (sd_al Y Z skf (!mr || !sd_fl u1 u2 w) w (i + 1)))]) by
      refine lv_if_eq (tgt := 73) hx hb dX2_allHold_39 rfl (fun h1 => ?_) (fun h1 => ?_)
      · have h1 : (sd_al Y Z skf (!mr || !sd_fl u1 u2 w) w i) = false := (bI_eq0 _).mp h1
        refine lv_iconst (v := nI 0) hx hb dX2_allHold_73 (by decide) ?_
        refine lv_nm (y := bI (sd_al Y Z skf (!mr || !sd_fl u1 u2 w) w (i + 1))) (hw_0.trans (congrArg bI (show false = (sd_al Y Z skf (!mr || !sd_fl u1 u2 w) w (i + 1)) by first | exact sd_al_t1 h1 (hski.mp h2) | exact sd_al_t2 h1 h3 | exact sd_al_f1 h1 | exact sd_al_f2 (hw_bn (fun h9 => h2 (hski.mpr h9))) h3))) ?_
        exact mk
      · have h1 : (sd_al Y Z skf (!mr || !sd_fl u1 u2 w) w i) = true := bI_ne0 h1
        refine lv_iload_n hx hb dX2_allHold_42 rfl (lv_at hl 3 rfl) ?_
        refine lv_aload_n hx hb dX2_allHold_43 rfl (lv_at hl 0 rfl) ?_
        refine va_get (D := D) (ci := 2) (v := .int sk) (C := RX2) (T := TX2) (N := 14) hx hb ht inX2 hown hK hP 0 rfl rfl 6 (by decide) (ht _ wf_X2_skip) (fun _ h9 => h9) rfl dX2_allHold_44 ?_
        refine lv_icmp_eq (tgt := 69) hx hb dX2_allHold_47 rfl (fun h2 => ?_) (fun h2 => ?_)
        · refine lv_iconst (v := nI 1) hx hb dX2_allHold_69 (by decide) ?_
          refine lv_goto (tgt := 74) hx hb dX2_allHold_70 rfl ?_
          refine lv_nm (y := bI (sd_al Y Z skf (!mr || !sd_fl u1 u2 w) w (i + 1))) (hw_1.trans (congrArg bI (show true = (sd_al Y Z skf (!mr || !sd_fl u1 u2 w) w (i + 1)) by first | exact sd_al_t1 h1 (hski.mp h2) | exact sd_al_t2 h1 h3 | exact sd_al_f1 h1 | exact sd_al_f2 (hw_bn (fun h9 => h2 (hski.mpr h9))) h3))) ?_
          exact mk
        · refine lv_aload_n hx hb dX2_allHold_50 rfl (lv_at hl 0 rfl) ?_
          refine va_get (D := D) (ci := 2) (v := .ref my) (C := RX2) (T := TX2) (N := 14) hx hb ht inX2 hown hK hP 0 rfl rfl 3 (by decide) (ht _ wf_X2_yes) (fun _ h9 => h9) rfl dX2_allHold_51 ?_
          refine lv_iload_n hx hb dX2_allHold_54 rfl (lv_at hl 3 rfl) ?_
          refine na_nald (f := Y) hx hb hK hP 1 0 rfl rfl (j := i) (by omega) (by omega) dX2_allHold_55 ?_
          refine lv_aload_n hx hb dX2_allHold_56 rfl (lv_at hl 0 rfl) ?_
          refine va_get (D := D) (ci := 2) (v := .ref mz) (C := RX2) (T := TX2) (N := 14) hx hb ht inX2 hown hK hP 0 rfl rfl 4 (by decide) (ht _ wf_X2_no) (fun _ h9 => h9) rfl dX2_allHold_57 ?_
          refine lv_iload_n hx hb dX2_allHold_60 rfl (lv_at hl 3 rfl) ?_
          refine na_nald (f := Z) hx hb hK hP 2 0 rfl rfl (j := i) (by omega) (by omega) dX2_allHold_61 ?_
          refine lv_iload_n hx hb dX2_allHold_62 rfl (lv_at hl 1 rfl) ?_
          refine hw_callR (va_runS (As := [.int (nI (Y i)), .int (nI (Z i)), .int (nI w)]) (rest := []) ⟨hx, hb, hml, hown, ht⟩ (m_holds l D cI cZ (Y i) (Z i) w (by omega) (by omega) (by omega)) (va_cwS 3 ht (gS wm_X2_X2_holds wt_X2_holds wn_X2 wc_X2_holds) rfl rfl rfl (by decide +kernel) ⟨Nat.le_of_ble_eq_true rfl, Nat.le_of_ble_eq_true rfl⟩) (rPre_S (hP.sub [] rfl) hK hN) rfl rfl hl.1 rfl (lv_room (Nat.le_of_ble_eq_true rfl)) dX2_allHold_63 ⟨Nat.zero_le _, Nat.zero_le _⟩) ?_
          refine lv_if_eq (tgt := 73) hx hb dX2_allHold_66 rfl (fun h3 => ?_) (fun h3 => ?_)
          · have h3 : (!sd_fl (Y i) (Z i) w) = false := (bI_eq0 _).mp h3
            refine lv_iconst (v := nI 0) hx hb dX2_allHold_73 (by decide) ?_
            refine lv_nm (y := bI (sd_al Y Z skf (!mr || !sd_fl u1 u2 w) w (i + 1))) (hw_0.trans (congrArg bI (show false = (sd_al Y Z skf (!mr || !sd_fl u1 u2 w) w (i + 1)) by first | exact sd_al_t1 h1 (hski.mp h2) | exact sd_al_t2 h1 h3 | exact sd_al_f1 h1 | exact sd_al_f2 (hw_bn (fun h9 => h2 (hski.mpr h9))) h3))) ?_
            exact mk
          · have h3 : (!sd_fl (Y i) (Z i) w) = true := bI_ne0 h3
            refine lv_iconst (v := nI 1) hx hb dX2_allHold_69 (by decide) ?_
            refine lv_goto (tgt := 74) hx hb dX2_allHold_70 rfl ?_
            refine lv_nm (y := bI (sd_al Y Z skf (!mr || !sd_fl u1 u2 w) w (i + 1))) (hw_1.trans (congrArg bI (show true = (sd_al Y Z skf (!mr || !sd_fl u1 u2 w) w (i + 1)) by first | exact sd_al_t1 h1 (hski.mp h2) | exact sd_al_t2 h1 h3 | exact sd_al_f1 h1 | exact sd_al_f2 (hw_bn (fun h9 => h2 (hski.mpr h9))) h3))) ?_
            exact mk
    refine lv_istore_n hx hb dX2_allHold_74 rfl hl (by decide) rfl (fun ls hl => ?_)
    have hl : lv_has ls 4 [(2, .int (bI (sd_al Y Z skf (!mr || !sd_fl u1 u2 w) w (i + 1)))), (0, .ref om), (1, .int (nI w)), (3, .int (nI i))] := hl
    refine lv_iinc (k := 3) (v := nI (i + 1)) hx hb dX2_allHold_75 hl rfl (hw_inc _) (by decide) rfl (fun ls hl => ?_)
    have hl : lv_has ls 4 [(3, .int (nI (i + 1))), (2, .int (bI (sd_al Y Z skf (!mr || !sd_fl u1 u2 w) w (i + 1)))), (0, .ref om), (1, .int (nI w))] := hl
    refine lv_goto (tgt := 30) hx hb dX2_allHold_78 rfl ?_
    have hl : lv_has ls 4 [(0, .ref om), (1, .int (nI w)), (2, .int (bI (sd_al Y Z skf (!mr || !sd_fl u1 u2 w) w (i + 1)))), (3, .int (nI (i + 1)))] := lv_sub hl [2, 3, 1, 0] rfl
    exact ih (i + 1) ls (by omega) hl

set_option maxHeartbeats 4000000 in
set_option maxRecDepth 100000 in
theorem m_onesAt (l : Launch) (D : va_G) (cI cZ : ClassId) (om my mz mv mt n a q d v u1 u2 : Nat) (kn mr : Bool) (sk : Int32) (Y Z : Nat → Nat) (T : Nat → Int32) (wn : Nat → Bool) (ok : dOk n a q d v Y Z) (w : Nat) (hw : w < 2 ^ 31) : Met l yX2_onesAt (kX2_onesAt :: aW) { frames := 0, cells := 0, slots := 0, locals := 0 } (rPre [.ref om, .int (nI w)] D [(om, .inr (2, [.int (nI n), .int (nI a), .int (nI q), .ref my, .ref mz, .int (bI kn), .int sk, .int (bI mr), .int (nI u1), .int (nI u2), .ref mv, .int (nI (sd_pos d v)), .int (nI d), .ref mt])), (my, .inl (cI, 24, .inl (fun jq => nI (Y jq)))), (mz, .inl (cI, 24, .inl (fun jq => nI (Z jq)))), (mv, .inl (cZ, 2048, .inl (fun jq => bI (wn jq)))), (mt, .inl (cI, 10, .inl T))] [(cI, .int), (cZ, .boolean)]) (QcRead (nI (sd_on n w n))) 0 0 (fun _ => False) := by
  obtain ⟨hn1, hn, ha, h5, hq, hY, hZ, hd, hv⟩ := id ok
  have h2n := hw_p10 hn
  refine Met.ofW (cc := cX2_onesAt) (maxL := 4) (ret := (some .int)) (by decide) rfl ?_
  intro p e s m args below meth c s₁ Bo hml hpre
  obtain ⟨rfl, hP, hK, hN⟩ := hpre
  have hx := Bo.exec
  have hb := Bo.bytes
  have hr := Bo.returns
  have hts := atoms_spec (ws := kX2_onesAt :: aW) Bo.pre
  have ht : ∀ w ∈ aW, w.before _ s = true := fun w h => hts w (List.mem_cons_of_mem _ h)
  have hown : s.vm.findClass RX2 = some m.cls := findClass_of_methodNamed Bo.named
  have hlocks := Bo.notSynchronized
  have hP : va_P D clS [(om, .inr (2, [.int (nI n), .int (nI a), .int (nI q), .ref my, .ref mz, .int (bI kn), .int sk, .int (bI mr), .int (nI u1), .int (nI u2), .ref mv, .int (nI (sd_pos d v)), .int (nI d), .ref mt])), (my, .inl (cI, 24, .inl (fun jq => nI (Y jq)))), (mz, .inl (cI, 24, .inl (fun jq => nI (Z jq)))), (mv, .inl (cZ, 2048, .inl (fun jq => bI (wn jq)))), (mt, .inl (cI, 10, .inl T))] s.heap := hP
  have hl := lv_entry ([.ref om, .int (nI w)]) (n := 4) (Nat.le_of_ble_eq_true rfl)
  rw [lg_entry_eq]
  generalize (lg_sl ([.ref om, .int (nI w)]) ++ List.replicate (4 - (lg_sl ([.ref om, .int (nI w)])).length) Slot.unset).toArray = ls at hl ⊢
  have hl : lv_has ls 4 [(0, .ref om), (1, .int (nI w))] := hl
  refine lv_iconst (v := nI 0) hx hb dX2_onesAt_0 (by decide) ?_
  refine lv_istore_n hx hb dX2_onesAt_1 rfl hl (by decide) rfl (fun ls hl => ?_)
  have hl : lv_has ls 4 [(2, .int (nI 0)), (0, .ref om), (1, .int (nI w))] := hl
  refine lv_iconst (v := nI 0) hx hb dX2_onesAt_2 (by decide) ?_
  refine lv_istore_n hx hb dX2_onesAt_3 rfl hl (by decide) rfl (fun ls hl => ?_)
  have hl : lv_has ls 4 [(3, .int (nI 0)), (2, .int (nI 0)), (0, .ref om), (1, .int (nI w))] := hl
  have hl : lv_has ls 4 [(0, .ref om), (1, .int (nI w)), (2, .int (nI 0)), (3, .int (nI 0))] := lv_sub hl [2, 3, 1, 0] rfl
  suffices lp : ∀ k : Nat, ∀ (i : Nat) (ls : Array Slot), (i + k = n) → lv_has ls 4 [(0, .ref om), (1, .int (nI w)), (2, .int (nI (sd_on n w i))), (3, .int (nI i))] → W p l e (headSpec (kX2_onesAt :: aW) { frames := 0, cells := 0, slots := 0, locals := 0 }).room s m (([.ref om, .int (nI w)] : List Value).toArray) below meth c s.heap [] 0 0 (MQ below (QcRead (nI (sd_on n w n))) (([.ref om, .int (nI w)] : List Value).toArray) s 0 0 (fun _ => False)) (F0 m 4 ls []) by
    exact lp n 0 ls (by omega) hl
  intro k
  induction k with
  | zero =>
    intro i ls hi hl
    refine lv_iload_n hx hb dX2_onesAt_4 rfl (lv_at hl 3 rfl) ?_
    refine lv_aload_n hx hb dX2_onesAt_5 rfl (lv_at hl 0 rfl) ?_
    refine va_get (D := D) (ci := 2) (v := .int (nI n)) (C := RX2) (T := TX2) (N := 14) hx hb ht inX2 hown hK hP 0 rfl rfl 0 (by decide) (ht _ wf_X2_n) (fun _ h9 => h9) rfl dX2_onesAt_6 ?_
    refine lv_icmp_ge (tgt := 44) hx hb dX2_onesAt_9 rfl (fun _ => ?_) (fun hc => absurd (show ¬ (n ≤ i) from fun h9 => hc ((nI_leI (by omega) (by omega)).mpr h9)) (by omega))
    refine lv_iload_n hx hb dX2_onesAt_44 rfl (lv_at hl 2 rfl) ?_
    exact W.iret hx hb hr (fun t ht2 _ => ⟨hw_ret (by rw [show i = n by omega]), ht2⟩) (fun _ h => by cases h) dX2_onesAt_45
  | succ k ih =>
    intro i ls hi hl
    refine lv_iload_n hx hb dX2_onesAt_4 rfl (lv_at hl 3 rfl) ?_
    refine lv_aload_n hx hb dX2_onesAt_5 rfl (lv_at hl 0 rfl) ?_
    refine va_get (D := D) (ci := 2) (v := .int (nI n)) (C := RX2) (T := TX2) (N := 14) hx hb ht inX2 hown hK hP 0 rfl rfl 0 (by decide) (ht _ wf_X2_n) (fun _ h9 => h9) rfl dX2_onesAt_6 ?_
    refine lv_icmp_ge (tgt := 44) hx hb dX2_onesAt_9 rfl (fun hc => absurd (show n ≤ i from (nI_leI (by omega) (by omega)).mp hc) (by omega)) (fun _ => ?_)
    refine lv_iload_n hx hb dX2_onesAt_12 rfl (lv_at hl 1 rfl) ?_
    refine lv_aload_n hx hb dX2_onesAt_13 rfl (lv_at hl 0 rfl) ?_
    refine va_get (D := D) (ci := 2) (v := .int (nI n)) (C := RX2) (T := TX2) (N := 14) hx hb ht inX2 hown hK hP 0 rfl rfl 0 (by decide) (ht _ wf_X2_n) (fun _ h9 => h9) rfl dX2_onesAt_14 ?_
    refine lv_iconst (v := nI 1) hx hb dX2_onesAt_17 (by decide) ?_
    refine lv_isub hx hb dX2_onesAt_18 ?_
    refine lv_nm (y := nI (n - 1)) (pk_sub (by omega)) ?_
    refine lv_iload_n hx hb dX2_onesAt_19 rfl (lv_at hl 3 rfl) ?_
    refine lv_isub hx hb dX2_onesAt_20 ?_
    refine lv_nm (y := nI ((n - 1) - i)) (pk_sub (by omega)) ?_
    refine lv_ishr hx hb dX2_onesAt_21 ?_
    refine lv_iconst (v := nI 1) hx hb dX2_onesAt_22 (by decide) ?_
    refine lv_iand hx hb dX2_onesAt_23 ?_
    refine lv_nm (y := bI ((uN (nI w)).testBit ((n - 1) - i))) (hw_sbit _ (by omega)) ?_
    refine lv_nm (y := bI (w.testBit (n - 1 - i))) (congrArg bI (by rw [uN_nI (by omega)])) ?_
    refine lv_iconst (v := nI 1) hx hb dX2_onesAt_24 (by decide) ?_
    suffices mk : W p l e (headSpec (kX2_onesAt :: aW) { frames := 0, cells := 0, slots := 0, locals := 0 }).room s m (([.ref om, .int (nI w)] : List Value).toArray) below meth c s.heap [] 0 0 (MQ below (QcRead (nI (sd_on n w n))) (([.ref om, .int (nI w)] : List Value).toArray) s 0 0 (fun _ => False)) (F0 m 37 ls [.int (nI (sd_on n w (i + 1)))]) by
      refine lv_icmp_ne (tgt := 36) hx hb dX2_onesAt_25 rfl (fun h1 => ?_) (fun h1 => ?_)
      · have h1 : (w.testBit (n - 1 - i)) = false := bI_ne1 h1
        refine lv_iload_n hx hb dX2_onesAt_36 rfl (lv_at hl 2 rfl) ?_
        refine lv_nm (y := nI (sd_on n w (i + 1))) (congrArg nI (by show _ = sd_on n w i + (w.testBit (n - 1 - i)).toNat * 2 ^ i; rw [h1]; simp)) ?_
        exact mk
      · have h1 : (w.testBit (n - 1 - i)) = true := (bI_eq1 _).mp h1
        refine lv_iload_n hx hb dX2_onesAt_28 rfl (lv_at hl 2 rfl) ?_
        refine lv_iconst (v := nI 1) hx hb dX2_onesAt_29 (by decide) ?_
        refine lv_iload_n hx hb dX2_onesAt_30 rfl (lv_at hl 3 rfl) ?_
        refine lv_ishl hx hb dX2_onesAt_31 ?_
        refine lv_nm (y := nI (2 ^ i)) (hw_shl1' (by omega)) ?_
        refine lv_iadd hx hb dX2_onesAt_32 ?_
        refine lv_nm (y := nI ((sd_on n w i) + (2 ^ i))) (nI_add _ _) ?_
        refine lv_nm (y := nI (sd_on n w (i + 1))) (congrArg nI (by show _ = sd_on n w i + (w.testBit (n - 1 - i)).toNat * 2 ^ i; rw [h1]; simp)) ?_
        refine lv_goto (tgt := 37) hx hb dX2_onesAt_33 rfl ?_
        exact mk
    refine lv_istore_n hx hb dX2_onesAt_37 rfl hl (by decide) rfl (fun ls hl => ?_)
    have hl : lv_has ls 4 [(2, .int (nI (sd_on n w (i + 1)))), (0, .ref om), (1, .int (nI w)), (3, .int (nI i))] := hl
    refine lv_iinc (k := 3) (v := nI (i + 1)) hx hb dX2_onesAt_38 hl rfl (hw_inc _) (by decide) rfl (fun ls hl => ?_)
    have hl : lv_has ls 4 [(3, .int (nI (i + 1))), (2, .int (nI (sd_on n w (i + 1)))), (0, .ref om), (1, .int (nI w))] := hl
    refine lv_goto (tgt := 4) hx hb dX2_onesAt_41 rfl ?_
    have hl : lv_has ls 4 [(0, .ref om), (1, .int (nI w)), (2, .int (nI (sd_on n w (i + 1)))), (3, .int (nI (i + 1)))] := lv_sub hl [2, 3, 1, 0] rfl
    exact ih (i + 1) ls (by omega) hl

set_option maxHeartbeats 4000000 in
set_option maxRecDepth 100000 in
theorem m_fill (l : Launch) (D : va_G) (cI cZ : ClassId) (om my mz mv mt n a q d v u1 u2 : Nat) (kn mr : Bool) (sk : Int32) (Y Z : Nat → Nat) (T : Nat → Int32) (wn : Nat → Bool) (ok : dOk n a q d v Y Z) (sz : Nat) (S : Nat → Bool) (skf : Nat → Bool) (hu1 : u1 < 2 ^ n) (hu2 : u2 < 2 ^ n) (hsk : ∀ i, i < 24 → (nI i = sk ↔ skf i = true)) (hS9 : ∀ w, w < 2 ^ n → sd_al Y Z skf (!mr || !sd_fl u1 u2 w) w q = S w) (hw0 : wn 0 = false) (hwh : ∀ j, 2 * 2 ^ n ≤ j → wn j = false) : Met l yX2_fill (kX2_fill :: aW) { frames := 2, cells := 0, slots := 0, locals := 45 } (wPre [.ref om] D [(om, .inr (2, [.int (nI n), .int (nI a), .int (nI q), .ref my, .ref mz, .int (bI kn), .int sk, .int (bI mr), .int (nI u1), .int (nI u2), .ref mv, .int (nI (sd_pos d v)), .int (nI d), .ref mt])), (my, .inl (cI, 24, .inl (fun jq => nI (Y jq)))), (mz, .inl (cI, 24, .inl (fun jq => nI (Z jq)))), (mv, .inl (cZ, 2048, .inl (fun jq => bI (wn jq)))), (mt, .inl (cI, 10, .inl T))] [(cI, .int), (cZ, .boolean)] sz) (wQ none D [(om, .inr (2, [.int (nI n), .int (nI a), .int (nI q), .ref my, .ref mz, .int (bI kn), .int sk, .int (bI mr), .int (nI u1), .int (nI u2), .ref mv, .int (nI (sd_pos d v)), .int (nI d), .ref mt])), (my, .inl (cI, 24, .inl (fun jq => nI (Y jq)))), (mz, .inl (cI, 24, .inl (fun jq => nI (Z jq)))), (mv, .inl (cZ, 2048, .inl (fun jq => bI ((sd_wn n a S) jq)))), (mt, .inl (cI, 10, .inl T))] (va_A [(om, .inr (2, [.int (nI n), .int (nI a), .int (nI q), .ref my, .ref mz, .int (bI kn), .int sk, .int (bI mr), .int (nI u1), .int (nI u2), .ref mv, .int (nI (sd_pos d v)), .int (nI d), .ref mt])), (my, .inl (cI, 24, .inl (fun jq => nI (Y jq)))), (mz, .inl (cI, 24, .inl (fun jq => nI (Z jq)))), (mv, .inl (cZ, 2048, .inl (fun jq => bI (wn jq)))), (mt, .inl (cI, 10, .inl T))] sz)) 0 0 (va_A [(om, .inr (2, [.int (nI n), .int (nI a), .int (nI q), .ref my, .ref mz, .int (bI kn), .int sk, .int (bI mr), .int (nI u1), .int (nI u2), .ref mv, .int (nI (sd_pos d v)), .int (nI d), .ref mt])), (my, .inl (cI, 24, .inl (fun jq => nI (Y jq)))), (mz, .inl (cI, 24, .inl (fun jq => nI (Z jq)))), (mv, .inl (cZ, 2048, .inl (fun jq => bI (wn jq)))), (mt, .inl (cI, 10, .inl T))] sz) := by
  obtain ⟨hn1, hn, ha, h5, hq, hY, hZ, hd, hv⟩ := id ok
  have h2n := hw_p10 hn
  refine Met.ofW (cc := cX2_fill) (maxL := 3) (ret := none) (by decide) rfl ?_
  intro p e s m args below meth c s₁ Bo hml hpre
  obtain ⟨rfl, hsz, hP, hK, hN, hD0⟩ := hpre
  subst hsz
  have hD := hD0.self (sz := s.heap.size)
  generalize hAe : va_A [(om, .inr (2, [.int (nI n), .int (nI a), .int (nI q), .ref my, .ref mz, .int (bI kn), .int sk, .int (bI mr), .int (nI u1), .int (nI u2), .ref mv, .int (nI (sd_pos d v)), .int (nI d), .ref mt])), (my, .inl (cI, 24, .inl (fun jq => nI (Y jq)))), (mz, .inl (cI, 24, .inl (fun jq => nI (Z jq)))), (mv, .inl (cZ, 2048, .inl (fun jq => bI (wn jq)))), (mt, .inl (cI, 10, .inl T))] s.heap.size = A at hD ⊢
  have hA : ∀ q : Nat, s.heap.size ≤ q → A q := fun q h => by rw [← hAe]; exact Or.inr h
  have hS : va_S A s.heap s.heap [] := va_S.rf
  have hx := Bo.exec
  have hb := Bo.bytes
  have hr := Bo.returns
  have hts := atoms_spec (ws := kX2_fill :: aW) Bo.pre
  have ht : ∀ w ∈ aW, w.before _ s = true := fun w h => hts w (List.mem_cons_of_mem _ h)
  have hown : s.vm.findClass RX2 = some m.cls := findClass_of_methodNamed Bo.named
  have hlocks := Bo.notSynchronized
  have hP : va_P D clS [(om, .inr (2, [.int (nI n), .int (nI a), .int (nI q), .ref my, .ref mz, .int (bI kn), .int sk, .int (bI mr), .int (nI u1), .int (nI u2), .ref mv, .int (nI (sd_pos d v)), .int (nI d), .ref mt])), (my, .inl (cI, 24, .inl (fun jq => nI (Y jq)))), (mz, .inl (cI, 24, .inl (fun jq => nI (Z jq)))), (mv, .inl (cZ, 2048, .inl (fun jq => bI (wn jq)))), (mt, .inl (cI, 10, .inl T))] s.heap := hP
  have hl := lv_entry ([.ref om]) (n := 3) (Nat.le_of_ble_eq_true rfl)
  rw [lg_entry_eq]
  generalize (lg_sl ([.ref om]) ++ List.replicate (3 - (lg_sl ([.ref om])).length) Slot.unset).toArray = ls at hl ⊢
  have hl : lv_has ls 3 [(0, .ref om)] := hl
  have hpn := Nat.two_pow_pos n
  refine lv_iconst (v := nI 1) hx hb dX2_fill_0 (by decide) ?_
  refine lv_aload_n hx hb dX2_fill_1 rfl (lv_at hl 0 rfl) ?_
  refine va_get (D := D) (ci := 2) (v := .int (nI n)) (C := RX2) (T := TX2) (N := 14) hx hb ht inX2 hown hK hP 0 rfl rfl 0 (by decide) (ht _ wf_X2_n) (fun _ h9 => h9) rfl dX2_fill_2 ?_
  refine lv_ishl hx hb dX2_fill_5 ?_
  refine lv_nm (y := nI (2 ^ n)) (hw_shl1' (by omega)) ?_
  refine lv_istore_n hx hb dX2_fill_6 rfl hl (by decide) rfl (fun ls hl => ?_)
  have hl : lv_has ls 3 [(1, .int (nI (2 ^ n))), (0, .ref om)] := hl
  have hl : lv_has ls 3 [(0, .ref om), (1, .int (nI (2 ^ n)))] := lv_sub hl [1, 0] rfl
  suffices lp : ∀ k : Nat, ∀ (i : Nat) (F : Nat → Bool) (ls : Array Slot) (H : Heap) (locs : List Loc), (i + k = 2 * 2 ^ n) → (2 ^ n ≤ i) → (∀ j, 2 ^ n ≤ j → j < i → F j = sd_wn n a S j) → (∀ j, j = 0 ∨ 2 * 2 ^ n ≤ j → F j = false) → lv_has ls 3 [(0, .ref om), (1, .int (nI i))] → va_P D clS [(om, .inr (2, [.int (nI n), .int (nI a), .int (nI q), .ref my, .ref mz, .int (bI kn), .int sk, .int (bI mr), .int (nI u1), .int (nI u2), .ref mv, .int (nI (sd_pos d v)), .int (nI d), .ref mt])), (my, .inl (cI, 24, .inl (fun jq => nI (Y jq)))), (mz, .inl (cI, 24, .inl (fun jq => nI (Z jq)))), (mv, .inl (cZ, 2048, .inl (fun jq => bI (F jq)))), (mt, .inl (cI, 10, .inl T))] H → va_S A s.heap H locs → W p l e (headSpec (kX2_fill :: aW) { frames := 2, cells := 0, slots := 0, locals := 45 }).room s m (([.ref om] : List Value).toArray) below meth c H locs 0 0 (MQ below (wQ none D [(om, .inr (2, [.int (nI n), .int (nI a), .int (nI q), .ref my, .ref mz, .int (bI kn), .int sk, .int (bI mr), .int (nI u1), .int (nI u2), .ref mv, .int (nI (sd_pos d v)), .int (nI d), .ref mt])), (my, .inl (cI, 24, .inl (fun jq => nI (Y jq)))), (mz, .inl (cI, 24, .inl (fun jq => nI (Z jq)))), (mv, .inl (cZ, 2048, .inl (fun jq => bI ((sd_wn n a S) jq)))), (mt, .inl (cI, 10, .inl T))] A) (([.ref om] : List Value).toArray) s 0 0 A) (F0 m 7 ls []) by
    exact lp (2 ^ n) (2 ^ n) wn ls s.heap [] (by omega) (Nat.le_refl _) (fun j h8 h9 => by omega) (fun j h9 => h9.elim (fun h8 => by subst h8; exact hw0) (hwh j)) hl hP hS
  intro k
  induction k with
  | zero =>
    intro i F ls H locs hi hi2 hF ho hl hP hS
    have hD : va_D A [(om, .inr (2, [.int (nI n), .int (nI a), .int (nI q), .ref my, .ref mz, .int (bI kn), .int sk, .int (bI mr), .int (nI u1), .int (nI u2), .ref mv, .int (nI (sd_pos d v)), .int (nI d), .ref mt])), (my, .inl (cI, 24, .inl (fun jq => nI (Y jq)))), (mz, .inl (cI, 24, .inl (fun jq => nI (Z jq)))), (mv, .inl (cZ, 2048, .inl (fun jq => bI (F jq)))), (mt, .inl (cI, 10, .inl T))] := hw_ad hD rfl
    refine lv_iload_n hx hb dX2_fill_7 rfl (lv_at hl 1 rfl) ?_
    refine lv_iconst (v := nI 2) hx hb dX2_fill_8 (by decide) ?_
    refine lv_aload_n hx hb dX2_fill_9 rfl (lv_at hl 0 rfl) ?_
    refine va_get (D := D) (ci := 2) (v := .int (nI n)) (C := RX2) (T := TX2) (N := 14) hx hb ht inX2 hown hK hP 0 rfl rfl 0 (by decide) (ht _ wf_X2_n) (fun _ h9 => h9) rfl dX2_fill_10 ?_
    refine lv_ishl hx hb dX2_fill_13 ?_
    refine lv_nm (y := nI (2 * 2 ^ n)) (hw_shl2 (by omega)) ?_
    refine lv_icmp_ge (tgt := 38) hx hb dX2_fill_14 rfl (fun _ => ?_) (fun hc => absurd (show ¬ (2 * 2 ^ n ≤ i) from fun h9 => hc ((nI_leI (by omega) (by omega)).mpr h9)) (by omega))
    obtain rfl : i = 2 * 2 ^ n := by omega
    refine lv_aload_n hx hb dX2_fill_38 rfl (lv_at hl 0 rfl) ?_
    refine va_get (D := D) (ci := 2) (v := .int (nI n)) (C := RX2) (T := TX2) (N := 14) hx hb ht inX2 hown hK hP 0 rfl rfl 0 (by decide) (ht _ wf_X2_n) (fun _ h9 => h9) rfl dX2_fill_39 ?_
    refine lv_iconst (v := nI 1) hx hb dX2_fill_42 (by decide) ?_
    refine lv_isub hx hb dX2_fill_43 ?_
    refine lv_nm (y := nI (n - 1)) (pk_sub (by omega)) ?_
    refine lv_istore_n hx hb dX2_fill_44 rfl hl (by decide) rfl (fun ls hl => ?_)
    have hl : lv_has ls 3 [(1, .int (nI (n - 1))), (0, .ref om)] := hl
    have hl : lv_has ls 3 [(0, .ref om), (1, .int (nI (n - 1)))] := lv_sub hl [1, 0] rfl
    have hl : lv_has ls 3 [(0, .ref om), (1, .int (nI n - 1))] := by rw [show nI n - 1 = nI (n - 1) from pk_sub (a := n) (b := 1) (by omega)]; exact hl
    suffices lq : ∀ k : Nat, ∀ (F : Nat → Bool) (ls : Array Slot) (H : Heap) (locs : List Loc), (k ≤ n) → (∀ j, 2 ^ k ≤ j → j < 2 * 2 ^ n → F j = sd_wn n a S j) → (∀ j, j = 0 ∨ 2 * 2 ^ n ≤ j → F j = false) → lv_has ls 3 [(0, .ref om), (1, .int (nI k - 1))] → va_P D clS [(om, .inr (2, [.int (nI n), .int (nI a), .int (nI q), .ref my, .ref mz, .int (bI kn), .int sk, .int (bI mr), .int (nI u1), .int (nI u2), .ref mv, .int (nI (sd_pos d v)), .int (nI d), .ref mt])), (my, .inl (cI, 24, .inl (fun jq => nI (Y jq)))), (mz, .inl (cI, 24, .inl (fun jq => nI (Z jq)))), (mv, .inl (cZ, 2048, .inl (fun jq => bI (F jq)))), (mt, .inl (cI, 10, .inl T))] H → va_S A s.heap H locs → W p l e (headSpec (kX2_fill :: aW) { frames := 2, cells := 0, slots := 0, locals := 45 }).room s m (([.ref om] : List Value).toArray) below meth c H locs 0 0 (MQ below (wQ none D [(om, .inr (2, [.int (nI n), .int (nI a), .int (nI q), .ref my, .ref mz, .int (bI kn), .int sk, .int (bI mr), .int (nI u1), .int (nI u2), .ref mv, .int (nI (sd_pos d v)), .int (nI d), .ref mt])), (my, .inl (cI, 24, .inl (fun jq => nI (Y jq)))), (mz, .inl (cI, 24, .inl (fun jq => nI (Z jq)))), (mv, .inl (cZ, 2048, .inl (fun jq => bI ((sd_wn n a S) jq)))), (mt, .inl (cI, 10, .inl T))] A) (([.ref om] : List Value).toArray) s 0 0 A) (F0 m 45 ls []) by
      exact lq n F ls H locs (Nat.le_refl n) hF ho hl hP hS
    intro k
    induction k with
    | zero =>
      intro F ls H locs hk hF ho hl hP hS
      have hD : va_D A [(om, .inr (2, [.int (nI n), .int (nI a), .int (nI q), .ref my, .ref mz, .int (bI kn), .int sk, .int (bI mr), .int (nI u1), .int (nI u2), .ref mv, .int (nI (sd_pos d v)), .int (nI d), .ref mt])), (my, .inl (cI, 24, .inl (fun jq => nI (Y jq)))), (mz, .inl (cI, 24, .inl (fun jq => nI (Z jq)))), (mv, .inl (cZ, 2048, .inl (fun jq => bI (F jq)))), (mt, .inl (cI, 10, .inl T))] := hw_ad hD rfl
      refine lv_iload_n hx hb dX2_fill_45 rfl (lv_at hl 1 rfl) ?_
      refine lv_if_lt (tgt := 147) hx hb dX2_fill_46 rfl (fun _ => ?_) (fun hc => absurd (by decide) hc)
      have hP : va_P D clS [(om, .inr (2, [.int (nI n), .int (nI a), .int (nI q), .ref my, .ref mz, .int (bI kn), .int sk, .int (bI mr), .int (nI u1), .int (nI u2), .ref mv, .int (nI (sd_pos d v)), .int (nI d), .ref mt])), (my, .inl (cI, 24, .inl (fun jq => nI (Y jq)))), (mz, .inl (cI, 24, .inl (fun jq => nI (Z jq)))), (mv, .inl (cZ, 2048, .inl (fun jq => bI ((sd_wn n a S) jq)))), (mt, .inl (cI, 10, .inl T))] H := hw_cgz hP (sd_wn n a S) (q0 := 3) rfl (fun j hj => (Decidable.em (j = 0 ∨ 2 * 2 ^ n ≤ j)).elim (fun h9 => (ho j h9).trans (if_pos h9).symm) (fun h9 => hF j (by show 1 ≤ j; omega) (by omega))) rfl
      have hD : va_D A [(om, .inr (2, [.int (nI n), .int (nI a), .int (nI q), .ref my, .ref mz, .int (bI kn), .int sk, .int (bI mr), .int (nI u1), .int (nI u2), .ref mv, .int (nI (sd_pos d v)), .int (nI d), .ref mt])), (my, .inl (cI, 24, .inl (fun jq => nI (Y jq)))), (mz, .inl (cI, 24, .inl (fun jq => nI (Z jq)))), (mv, .inl (cZ, 2048, .inl (fun jq => bI ((sd_wn n a S) jq)))), (mt, .inl (cI, 10, .inl T))] := hw_ad hD rfl
      exact W.vret hx hb hr (fun t ht2 _ => ⟨rfl, by rw [ht2]; exact hP, hS.F ht2⟩) hS.2.2 dX2_fill_147
    | succ k ih2 =>
      intro F ls H locs hk hF ho hl hP hS
      have hD : va_D A [(om, .inr (2, [.int (nI n), .int (nI a), .int (nI q), .ref my, .ref mz, .int (bI kn), .int sk, .int (bI mr), .int (nI u1), .int (nI u2), .ref mv, .int (nI (sd_pos d v)), .int (nI d), .ref mt])), (my, .inl (cI, 24, .inl (fun jq => nI (Y jq)))), (mz, .inl (cI, 24, .inl (fun jq => nI (Z jq)))), (mv, .inl (cZ, 2048, .inl (fun jq => bI (F jq)))), (mt, .inl (cI, 10, .inl T))] := hw_ad hD rfl
      have hl : lv_has ls 3 [(0, .ref om), (1, .int (nI k))] := by rw [show nI k = nI (k + 1) - 1 from (nI_pred k).symm]; exact hl
      have hp := Nat.two_pow_succ k
      have hkn : 2 ^ (k + 1) ≤ 2 ^ n := Nat.pow_le_pow_right (by decide) hk
      refine lv_iload_n hx hb dX2_fill_45 rfl (lv_at hl 1 rfl) ?_
      refine lv_if_lt (tgt := 147) hx hb dX2_fill_46 rfl (fun hc => absurd (nI_pos (by omega) hc) id) (fun _ => ?_)
      refine lv_iconst (v := nI 1) hx hb dX2_fill_49 (by decide) ?_
      refine lv_iload_n hx hb dX2_fill_50 rfl (lv_at hl 1 rfl) ?_
      refine lv_ishl hx hb dX2_fill_51 ?_
      refine lv_nm (y := nI (2 ^ k)) (hw_shl1' (by omega)) ?_
      refine lv_istore_n hx hb dX2_fill_52 rfl hl (by decide) rfl (fun ls hl => ?_)
      have hl : lv_has ls 3 [(2, .int (nI (2 ^ k))), (0, .ref om), (1, .int (nI k))] := hl
      have hl : lv_has ls 3 [(0, .ref om), (1, .int (nI k)), (2, .int (nI (2 ^ k)))] := lv_sub hl [1, 2, 0] rfl
      have hk0 := hk
      suffices lr : ∀ k2 : Nat, ∀ (i : Nat) (F : Nat → Bool) (ls : Array Slot) (H : Heap) (locs : List Loc), (i + k2 = 2 * 2 ^ k) → (2 ^ k ≤ i) → (∀ j, 2 ^ (k + 1) ≤ j → j < 2 * 2 ^ n → F j = sd_wn n a S j) → (∀ j, 2 ^ k ≤ j → j < i → F j = sd_wn n a S j) → (∀ j, j = 0 ∨ 2 * 2 ^ n ≤ j → F j = false) → lv_has ls 3 [(0, .ref om), (1, .int (nI k)), (2, .int (nI i))] → va_P D clS [(om, .inr (2, [.int (nI n), .int (nI a), .int (nI q), .ref my, .ref mz, .int (bI kn), .int sk, .int (bI mr), .int (nI u1), .int (nI u2), .ref mv, .int (nI (sd_pos d v)), .int (nI d), .ref mt])), (my, .inl (cI, 24, .inl (fun jq => nI (Y jq)))), (mz, .inl (cI, 24, .inl (fun jq => nI (Z jq)))), (mv, .inl (cZ, 2048, .inl (fun jq => bI (F jq)))), (mt, .inl (cI, 10, .inl T))] H → va_S A s.heap H locs → W p l e (headSpec (kX2_fill :: aW) { frames := 2, cells := 0, slots := 0, locals := 45 }).room s m (([.ref om] : List Value).toArray) below meth c H locs 0 0 (MQ below (wQ none D [(om, .inr (2, [.int (nI n), .int (nI a), .int (nI q), .ref my, .ref mz, .int (bI kn), .int sk, .int (bI mr), .int (nI u1), .int (nI u2), .ref mv, .int (nI (sd_pos d v)), .int (nI d), .ref mt])), (my, .inl (cI, 24, .inl (fun jq => nI (Y jq)))), (mz, .inl (cI, 24, .inl (fun jq => nI (Z jq)))), (mv, .inl (cZ, 2048, .inl (fun jq => bI ((sd_wn n a S) jq)))), (mt, .inl (cI, 10, .inl T))] A) (([.ref om] : List Value).toArray) s 0 0 A) (F0 m 53 ls []) by
        exact lr (2 ^ k) (2 ^ k) F ls H locs (by omega) (Nat.le_refl _) hF (fun j h8 h9 => by omega) ho hl hP hS
      intro k2
      induction k2 with
      | zero =>
        intro i F ls H locs hi hi2 hF hF2 ho hl hP hS
        have hD : va_D A [(om, .inr (2, [.int (nI n), .int (nI a), .int (nI q), .ref my, .ref mz, .int (bI kn), .int sk, .int (bI mr), .int (nI u1), .int (nI u2), .ref mv, .int (nI (sd_pos d v)), .int (nI d), .ref mt])), (my, .inl (cI, 24, .inl (fun jq => nI (Y jq)))), (mz, .inl (cI, 24, .inl (fun jq => nI (Z jq)))), (mv, .inl (cZ, 2048, .inl (fun jq => bI (F jq)))), (mt, .inl (cI, 10, .inl T))] := hw_ad hD rfl
        refine lv_iload_n hx hb dX2_fill_53 rfl (lv_at hl 2 rfl) ?_
        refine lv_iconst (v := nI 2) hx hb dX2_fill_54 (by decide) ?_
        refine lv_iload_n hx hb dX2_fill_55 rfl (lv_at hl 1 rfl) ?_
        refine lv_ishl hx hb dX2_fill_56 ?_
        refine lv_nm (y := nI (2 * 2 ^ k)) (hw_shl2 (by omega)) ?_
        refine lv_icmp_ge (tgt := 141) hx hb dX2_fill_57 rfl (fun _ => ?_) (fun hc => absurd (show ¬ (2 * 2 ^ k ≤ i) from fun h9 => hc ((nI_leI (by omega) (by omega)).mpr h9)) (by omega))
        refine lv_iinc (k := 1) (v := nI k - 1) hx hb dX2_fill_141 hl rfl (hw_m1 _) (by decide) rfl (fun ls hl => ?_)
        have hl : lv_has ls 3 [(1, .int (nI k - 1)), (0, .ref om), (2, .int (nI i))] := hl
        refine lv_goto (tgt := 45) hx hb dX2_fill_144 rfl ?_
        have hl : lv_has ls 3 [(0, .ref om), (1, .int (nI k - 1))] := lv_sub hl [1, 0] rfl
        exact ih2 F ls H locs (by omega) (fun j h8 h9 => (Nat.lt_or_ge j (2 ^ (k + 1))).elim (fun h7 => hF2 j h8 (by omega)) (fun h7 => hF j h7 h9)) ho hl hP hS
      | succ k2 ih3 =>
        intro i F ls H locs hi hi2 hF hF2 ho hl hP hS
        have hD : va_D A [(om, .inr (2, [.int (nI n), .int (nI a), .int (nI q), .ref my, .ref mz, .int (bI kn), .int sk, .int (bI mr), .int (nI u1), .int (nI u2), .ref mv, .int (nI (sd_pos d v)), .int (nI d), .ref mt])), (my, .inl (cI, 24, .inl (fun jq => nI (Y jq)))), (mz, .inl (cI, 24, .inl (fun jq => nI (Z jq)))), (mv, .inl (cZ, 2048, .inl (fun jq => bI (F jq)))), (mt, .inl (cI, 10, .inl T))] := hw_ad hD rfl
        refine lv_iload_n hx hb dX2_fill_53 rfl (lv_at hl 2 rfl) ?_
        refine lv_iconst (v := nI 2) hx hb dX2_fill_54 (by decide) ?_
        refine lv_iload_n hx hb dX2_fill_55 rfl (lv_at hl 1 rfl) ?_
        refine lv_ishl hx hb dX2_fill_56 ?_
        refine lv_nm (y := nI (2 * 2 ^ k)) (hw_shl2 (by omega)) ?_
        refine lv_icmp_ge (tgt := 141) hx hb dX2_fill_57 rfl (fun hc => absurd (show 2 * 2 ^ k ≤ i from (nI_leI (by omega) (by omega)).mp hc) (by omega)) (fun _ => ?_)
        refine lv_aload_n hx hb dX2_fill_60 rfl (lv_at hl 0 rfl) ?_
        refine va_get (D := D) (ci := 2) (v := .ref mv) (C := RX2) (T := TX2) (N := 14) hx hb ht inX2 hown hK hP 0 rfl rfl 10 (by decide) (ht _ wf_X2_win) (fun _ h9 => h9) rfl dX2_fill_61 ?_
        refine lv_iload_n hx hb dX2_fill_64 rfl (lv_at hl 2 rfl) ?_
        refine lv_aload_n hx hb dX2_fill_65 rfl (lv_at hl 0 rfl) ?_
        refine lv_iload_n hx hb dX2_fill_66 rfl (lv_at hl 1 rfl) ?_
        refine hw_callR (va_runV (b := om) (As := [.int (nI k)]) (rest := [.int (nI i), .ref mv]) ⟨hx, hb, hml, hown, ht⟩ (m_isAdams l D cI cZ om my mz mv mt n a q d v u1 u2 kn mr sk Y Z T F ok k (by omega)) (cwV 1 ht (gV wm_X2_X2_isAdams wi_X2_isAdams ws_X2_isAdams wn_X2 wc_X2_isAdams) rfl rfl rfl (by decide +kernel) ⟨Nat.le_of_ble_eq_true rfl, Nat.le_of_ble_eq_true rfl⟩) (rPre_V 0 hP hK hN rfl rfl) rfl rfl hl.1 rfl (lv_room (Nat.le_of_ble_eq_true rfl)) dX2_fill_67 ⟨Nat.zero_le _, Nat.zero_le _⟩) ?_
        suffices mk : W p l e (headSpec (kX2_fill :: aW) { frames := 2, cells := 0, slots := 0, locals := 45 }).room s m (([.ref om] : List Value).toArray) below meth c H locs 0 0 (MQ below (wQ none D [(om, .inr (2, [.int (nI n), .int (nI a), .int (nI q), .ref my, .ref mz, .int (bI kn), .int sk, .int (bI mr), .int (nI u1), .int (nI u2), .ref mv, .int (nI (sd_pos d v)), .int (nI d), .ref mt])), (my, .inl (cI, 24, .inl (fun jq => nI (Y jq)))), (mz, .inl (cI, 24, .inl (fun jq => nI (Z jq)))), (mv, .inl (cZ, 2048, .inl (fun jq => bI ((sd_wn n a S) jq)))), (mt, .inl (cI, 10, .inl T))] A) (([.ref om] : List Value).toArray) s 0 0 A) (F0 m 134 ls [.int (bI (sd_C (a.testBit k) (F (2 * i)) (F (2 * i + 1)))), .int (nI i), .ref mv]) by
          refine lv_if_eq (tgt := 105) hx hb dX2_fill_70 rfl (fun h1 => ?_) (fun h1 => ?_)
          · have h1 : (a.testBit k) = false := (bI_eq0 _).mp h1
            refine lv_aload_n hx hb dX2_fill_105 rfl (lv_at hl 0 rfl) ?_
            refine va_get (D := D) (ci := 2) (v := .ref mv) (C := RX2) (T := TX2) (N := 14) hx hb ht inX2 hown hK hP 0 rfl rfl 10 (by decide) (ht _ wf_X2_win) (fun _ h9 => h9) rfl dX2_fill_106 ?_
            refine lv_iconst (v := nI 2) hx hb dX2_fill_109 (by decide) ?_
            refine lv_iload_n hx hb dX2_fill_110 rfl (lv_at hl 2 rfl) ?_
            refine lv_imul hx hb dX2_fill_111 ?_
            refine lv_nm (y := nI (2 * i)) (pk_mul _ _) ?_
            refine na_zald (f := F) hx hb hK hP 3 1 rfl rfl (j := 2 * i) (by omega) (by omega) dX2_fill_112 ?_
            refine lv_if_ne (tgt := 129) hx hb dX2_fill_113 rfl (fun h2 => ?_) (fun h2 => ?_)
            · have h2 : (F (2 * i)) = true := bI_ne0 h2
              refine lv_iconst (v := nI 1) hx hb dX2_fill_129 (by decide) ?_
              refine lv_goto (tgt := 134) hx hb dX2_fill_130 rfl ?_
              refine lv_nm (y := bI (sd_C (a.testBit k) (F (2 * i)) (F (2 * i + 1)))) (hw_1.trans (congrArg bI (show true = (sd_C (a.testBit k) (F (2 * i)) (F (2 * i + 1))) by revert h1 h2; unfold sd_C; generalize a.testBit k = x1; generalize F (2 * i) = x2; generalize F (2 * i + 1) = x3; revert x1 x2 x3; decide))) ?_
              exact mk
            · have h2 : (F (2 * i)) = false := (bI_eq0 _).mp h2
              refine lv_aload_n hx hb dX2_fill_116 rfl (lv_at hl 0 rfl) ?_
              refine va_get (D := D) (ci := 2) (v := .ref mv) (C := RX2) (T := TX2) (N := 14) hx hb ht inX2 hown hK hP 0 rfl rfl 10 (by decide) (ht _ wf_X2_win) (fun _ h9 => h9) rfl dX2_fill_117 ?_
              refine lv_iconst (v := nI 2) hx hb dX2_fill_120 (by decide) ?_
              refine lv_iload_n hx hb dX2_fill_121 rfl (lv_at hl 2 rfl) ?_
              refine lv_imul hx hb dX2_fill_122 ?_
              refine lv_nm (y := nI (2 * i)) (pk_mul _ _) ?_
              refine lv_iconst (v := nI 1) hx hb dX2_fill_123 (by decide) ?_
              refine lv_iadd hx hb dX2_fill_124 ?_
              refine lv_nm (y := nI ((2 * i) + 1)) (nI_add _ _) ?_
              refine na_zald (f := F) hx hb hK hP 3 1 rfl rfl (j := (2 * i) + 1) (by omega) (by omega) dX2_fill_125 ?_
              refine lv_if_eq (tgt := 133) hx hb dX2_fill_126 rfl (fun h3 => ?_) (fun h3 => ?_)
              · have h3 : (F ((2 * i) + 1)) = false := (bI_eq0 _).mp h3
                refine lv_iconst (v := nI 0) hx hb dX2_fill_133 (by decide) ?_
                refine lv_nm (y := bI (sd_C (a.testBit k) (F (2 * i)) (F (2 * i + 1)))) (hw_0.trans (congrArg bI (show false = (sd_C (a.testBit k) (F (2 * i)) (F (2 * i + 1))) by revert h1 h2 h3; unfold sd_C; generalize a.testBit k = x1; generalize F (2 * i) = x2; generalize F (2 * i + 1) = x3; revert x1 x2 x3; decide))) ?_
                exact mk
              · have h3 : (F ((2 * i) + 1)) = true := bI_ne0 h3
                refine lv_iconst (v := nI 1) hx hb dX2_fill_129 (by decide) ?_
                refine lv_goto (tgt := 134) hx hb dX2_fill_130 rfl ?_
                refine lv_nm (y := bI (sd_C (a.testBit k) (F (2 * i)) (F (2 * i + 1)))) (hw_1.trans (congrArg bI (show true = (sd_C (a.testBit k) (F (2 * i)) (F (2 * i + 1))) by revert h1 h2 h3; unfold sd_C; generalize a.testBit k = x1; generalize F (2 * i) = x2; generalize F (2 * i + 1) = x3; revert x1 x2 x3; decide))) ?_
                exact mk
          · have h1 : (a.testBit k) = true := bI_ne0 h1
            refine lv_aload_n hx hb dX2_fill_73 rfl (lv_at hl 0 rfl) ?_
            refine va_get (D := D) (ci := 2) (v := .ref mv) (C := RX2) (T := TX2) (N := 14) hx hb ht inX2 hown hK hP 0 rfl rfl 10 (by decide) (ht _ wf_X2_win) (fun _ h9 => h9) rfl dX2_fill_74 ?_
            refine lv_iconst (v := nI 2) hx hb dX2_fill_77 (by decide) ?_
            refine lv_iload_n hx hb dX2_fill_78 rfl (lv_at hl 2 rfl) ?_
            refine lv_imul hx hb dX2_fill_79 ?_
            refine lv_nm (y := nI (2 * i)) (pk_mul _ _) ?_
            refine na_zald (f := F) hx hb hK hP 3 1 rfl rfl (j := 2 * i) (by omega) (by omega) dX2_fill_80 ?_
            refine lv_if_eq (tgt := 101) hx hb dX2_fill_81 rfl (fun h2 => ?_) (fun h2 => ?_)
            · have h2 : (F (2 * i)) = false := (bI_eq0 _).mp h2
              refine lv_iconst (v := nI 0) hx hb dX2_fill_101 (by decide) ?_
              refine lv_goto (tgt := 134) hx hb dX2_fill_102 rfl ?_
              refine lv_nm (y := bI (sd_C (a.testBit k) (F (2 * i)) (F (2 * i + 1)))) (hw_0.trans (congrArg bI (show false = (sd_C (a.testBit k) (F (2 * i)) (F (2 * i + 1))) by revert h1 h2; unfold sd_C; generalize a.testBit k = x1; generalize F (2 * i) = x2; generalize F (2 * i + 1) = x3; revert x1 x2 x3; decide))) ?_
              exact mk
            · have h2 : (F (2 * i)) = true := bI_ne0 h2
              refine lv_aload_n hx hb dX2_fill_84 rfl (lv_at hl 0 rfl) ?_
              refine va_get (D := D) (ci := 2) (v := .ref mv) (C := RX2) (T := TX2) (N := 14) hx hb ht inX2 hown hK hP 0 rfl rfl 10 (by decide) (ht _ wf_X2_win) (fun _ h9 => h9) rfl dX2_fill_85 ?_
              refine lv_iconst (v := nI 2) hx hb dX2_fill_88 (by decide) ?_
              refine lv_iload_n hx hb dX2_fill_89 rfl (lv_at hl 2 rfl) ?_
              refine lv_imul hx hb dX2_fill_90 ?_
              refine lv_nm (y := nI (2 * i)) (pk_mul _ _) ?_
              refine lv_iconst (v := nI 1) hx hb dX2_fill_91 (by decide) ?_
              refine lv_iadd hx hb dX2_fill_92 ?_
              refine lv_nm (y := nI ((2 * i) + 1)) (nI_add _ _) ?_
              refine na_zald (f := F) hx hb hK hP 3 1 rfl rfl (j := (2 * i) + 1) (by omega) (by omega) dX2_fill_93 ?_
              refine lv_if_eq (tgt := 101) hx hb dX2_fill_94 rfl (fun h3 => ?_) (fun h3 => ?_)
              · have h3 : (F ((2 * i) + 1)) = false := (bI_eq0 _).mp h3
                refine lv_iconst (v := nI 0) hx hb dX2_fill_101 (by decide) ?_
                refine lv_goto (tgt := 134) hx hb dX2_fill_102 rfl ?_
                refine lv_nm (y := bI (sd_C (a.testBit k) (F (2 * i)) (F (2 * i + 1)))) (hw_0.trans (congrArg bI (show false = (sd_C (a.testBit k) (F (2 * i)) (F (2 * i + 1))) by revert h1 h2 h3; unfold sd_C; generalize a.testBit k = x1; generalize F (2 * i) = x2; generalize F (2 * i + 1) = x3; revert x1 x2 x3; decide))) ?_
                exact mk
              · have h3 : (F ((2 * i) + 1)) = true := bI_ne0 h3
                refine lv_iconst (v := nI 1) hx hb dX2_fill_97 (by decide) ?_
                refine lv_goto (tgt := 134) hx hb dX2_fill_98 rfl ?_
                refine lv_nm (y := bI (sd_C (a.testBit k) (F (2 * i)) (F (2 * i + 1)))) (hw_1.trans (congrArg bI (show true = (sd_C (a.testBit k) (F (2 * i)) (F (2 * i + 1))) by revert h1 h2 h3; unfold sd_C; generalize a.testBit k = x1; generalize F (2 * i) = x2; generalize F (2 * i + 1) = x3; revert x1 x2 x3; decide))) ?_
                exact mk
        refine lv_nm (y := bI (sd_wn n a S i)) (congrArg bI (by rw [hF (2 * i) (by omega) (by omega), hF (2 * i + 1) (by omega) (by omega)]; exact (sd_wn_node (by omega) hi2 (by omega)).symm)) ?_
        refine na_zast (f := F) (b := sd_wn n a S i) hx hb hK hP hD hS 3 1 rfl rfl (j := i) (by omega) (by omega) dX2_fill_134 (fun H locs hP hD hS => ?_)
        have hP : va_P D clS [(om, .inr (2, [.int (nI n), .int (nI a), .int (nI q), .ref my, .ref mz, .int (bI kn), .int sk, .int (bI mr), .int (nI u1), .int (nI u2), .ref mv, .int (nI (sd_pos d v)), .int (nI d), .ref mt])), (my, .inl (cI, 24, .inl (fun jq => nI (Y jq)))), (mz, .inl (cI, 24, .inl (fun jq => nI (Z jq)))), (mv, .inl (cZ, 2048, .inl (fun jq => bI ((va_up F i (sd_wn n a S i)) jq)))), (mt, .inl (cI, 10, .inl T))] H := hP
        have hD : va_D A [(om, .inr (2, [.int (nI n), .int (nI a), .int (nI q), .ref my, .ref mz, .int (bI kn), .int sk, .int (bI mr), .int (nI u1), .int (nI u2), .ref mv, .int (nI (sd_pos d v)), .int (nI d), .ref mt])), (my, .inl (cI, 24, .inl (fun jq => nI (Y jq)))), (mz, .inl (cI, 24, .inl (fun jq => nI (Z jq)))), (mv, .inl (cZ, 2048, .inl (fun jq => bI ((va_up F i (sd_wn n a S i)) jq)))), (mt, .inl (cI, 10, .inl T))] := hD
        refine lv_iinc (k := 2) (v := nI (i + 1)) hx hb dX2_fill_135 hl rfl (hw_inc _) (by decide) rfl (fun ls hl => ?_)
        have hl : lv_has ls 3 [(2, .int (nI (i + 1))), (0, .ref om), (1, .int (nI k))] := hl
        refine lv_goto (tgt := 53) hx hb dX2_fill_138 rfl ?_
        have hl : lv_has ls 3 [(0, .ref om), (1, .int (nI k)), (2, .int (nI (i + 1)))] := lv_sub hl [1, 2, 0] rfl
        exact ih3 (i + 1) (va_up F i (sd_wn n a S i)) ls H locs (by omega) (by omega) (fun j h8 h9 => (va_up_ne _ _ (by omega)).trans (hF j h8 h9)) (fun j h8 h9 => (Nat.lt_or_ge j i).elim (fun h7 => (va_up_ne _ _ (by omega)).trans (hF2 j h8 h7)) (fun h7 => by obtain rfl : j = i := (by omega); exact va_up_self _ _ _)) (fun j h9 => (va_up_ne _ _ (by have h8 := Nat.two_pow_pos k; omega)).trans (ho j h9)) hl hP hS
  | succ k ih =>
    intro i F ls H locs hi hi2 hF ho hl hP hS
    have hD : va_D A [(om, .inr (2, [.int (nI n), .int (nI a), .int (nI q), .ref my, .ref mz, .int (bI kn), .int sk, .int (bI mr), .int (nI u1), .int (nI u2), .ref mv, .int (nI (sd_pos d v)), .int (nI d), .ref mt])), (my, .inl (cI, 24, .inl (fun jq => nI (Y jq)))), (mz, .inl (cI, 24, .inl (fun jq => nI (Z jq)))), (mv, .inl (cZ, 2048, .inl (fun jq => bI (F jq)))), (mt, .inl (cI, 10, .inl T))] := hw_ad hD rfl
    refine lv_iload_n hx hb dX2_fill_7 rfl (lv_at hl 1 rfl) ?_
    refine lv_iconst (v := nI 2) hx hb dX2_fill_8 (by decide) ?_
    refine lv_aload_n hx hb dX2_fill_9 rfl (lv_at hl 0 rfl) ?_
    refine va_get (D := D) (ci := 2) (v := .int (nI n)) (C := RX2) (T := TX2) (N := 14) hx hb ht inX2 hown hK hP 0 rfl rfl 0 (by decide) (ht _ wf_X2_n) (fun _ h9 => h9) rfl dX2_fill_10 ?_
    refine lv_ishl hx hb dX2_fill_13 ?_
    refine lv_nm (y := nI (2 * 2 ^ n)) (hw_shl2 (by omega)) ?_
    refine lv_icmp_ge (tgt := 38) hx hb dX2_fill_14 rfl (fun hc => absurd (show 2 * 2 ^ n ≤ i from (nI_leI (by omega) (by omega)).mp hc) (by omega)) (fun _ => ?_)
    refine lv_aload_n hx hb dX2_fill_17 rfl (lv_at hl 0 rfl) ?_
    refine va_get (D := D) (ci := 2) (v := .ref mv) (C := RX2) (T := TX2) (N := 14) hx hb ht inX2 hown hK hP 0 rfl rfl 10 (by decide) (ht _ wf_X2_win) (fun _ h9 => h9) rfl dX2_fill_18 ?_
    refine lv_iload_n hx hb dX2_fill_21 rfl (lv_at hl 1 rfl) ?_
    refine lv_aload_n hx hb dX2_fill_22 rfl (lv_at hl 0 rfl) ?_
    refine lv_aload_n hx hb dX2_fill_23 rfl (lv_at hl 0 rfl) ?_
    refine lv_iload_n hx hb dX2_fill_24 rfl (lv_at hl 1 rfl) ?_
    refine hw_callR (va_runV (b := om) (As := [.int (nI i)]) (rest := [.ref om, .int (nI i), .ref mv]) ⟨hx, hb, hml, hown, ht⟩ (m_onesAt l D cI cZ om my mz mv mt n a q d v u1 u2 kn mr sk Y Z T F ok i (by omega)) (cwV 1 ht (gV wm_X2_X2_onesAt wi_X2_onesAt ws_X2_onesAt wn_X2 wc_X2_onesAt) rfl rfl rfl (by decide +kernel) ⟨Nat.le_of_ble_eq_true rfl, Nat.le_of_ble_eq_true rfl⟩) (rPre_V 0 hP hK hN rfl rfl) rfl rfl hl.1 rfl (lv_room (Nat.le_of_ble_eq_true rfl)) dX2_fill_25 ⟨Nat.zero_le _, Nat.zero_le _⟩) ?_
    have hon := sd_on_lt n i n
    refine hw_callR (va_runV (b := om) (As := [.int (nI (sd_on n i n))]) (rest := [.int (nI i), .ref mv]) ⟨hx, hb, hml, hown, ht⟩ (m_allHold l D cI cZ om my mz mv mt n a q d v u1 u2 kn mr sk Y Z T F ok (sd_on n i n) skf hon hu1 hu2 hsk) (cwV 1 ht (gV wm_X2_X2_allHold wi_X2_allHold ws_X2_allHold wn_X2 wc_X2_allHold) rfl rfl rfl (by decide +kernel) ⟨Nat.le_of_ble_eq_true rfl, Nat.le_of_ble_eq_true rfl⟩) (rPre_V 0 hP hK hN rfl rfl) rfl rfl hl.1 rfl (lv_room (Nat.le_of_ble_eq_true rfl)) dX2_fill_28 ⟨Nat.zero_le _, Nat.zero_le _⟩) ?_
    refine lv_nm (y := bI (sd_wn n a S i)) (congrArg bI ((hS9 _ hon).trans (sd_wn_leaf hi2 (by omega)).symm)) ?_
    refine na_zast (f := F) (b := sd_wn n a S i) hx hb hK hP hD hS 3 1 rfl rfl (j := i) (by omega) (by omega) dX2_fill_31 (fun H locs hP hD hS => ?_)
    have hP : va_P D clS [(om, .inr (2, [.int (nI n), .int (nI a), .int (nI q), .ref my, .ref mz, .int (bI kn), .int sk, .int (bI mr), .int (nI u1), .int (nI u2), .ref mv, .int (nI (sd_pos d v)), .int (nI d), .ref mt])), (my, .inl (cI, 24, .inl (fun jq => nI (Y jq)))), (mz, .inl (cI, 24, .inl (fun jq => nI (Z jq)))), (mv, .inl (cZ, 2048, .inl (fun jq => bI ((va_up F i (sd_wn n a S i)) jq)))), (mt, .inl (cI, 10, .inl T))] H := hP
    have hD : va_D A [(om, .inr (2, [.int (nI n), .int (nI a), .int (nI q), .ref my, .ref mz, .int (bI kn), .int sk, .int (bI mr), .int (nI u1), .int (nI u2), .ref mv, .int (nI (sd_pos d v)), .int (nI d), .ref mt])), (my, .inl (cI, 24, .inl (fun jq => nI (Y jq)))), (mz, .inl (cI, 24, .inl (fun jq => nI (Z jq)))), (mv, .inl (cZ, 2048, .inl (fun jq => bI ((va_up F i (sd_wn n a S i)) jq)))), (mt, .inl (cI, 10, .inl T))] := hD
    refine lv_iinc (k := 1) (v := nI (i + 1)) hx hb dX2_fill_32 hl rfl (hw_inc _) (by decide) rfl (fun ls hl => ?_)
    have hl : lv_has ls 3 [(1, .int (nI (i + 1))), (0, .ref om)] := hl
    refine lv_goto (tgt := 7) hx hb dX2_fill_35 rfl ?_
    have hl : lv_has ls 3 [(0, .ref om), (1, .int (nI (i + 1)))] := lv_sub hl [1, 0] rfl
    exact ih (i + 1) (va_up F i (sd_wn n a S i)) ls H locs (by omega) (by omega) (fun j h8 h9 => (Nat.lt_or_ge j i).elim (fun h7 => (va_up_ne _ _ (by omega)).trans (hF j h8 h7)) (fun h7 => by obtain rfl : j = i := (by omega); exact va_up_self _ _ _)) (fun j h9 => (va_up_ne _ _ (by omega)).trans (ho j h9)) hl hP hS
end
section
/-! Contracts of the reference: look, and what rests on it. -/
/-- where the row of winners is known it is right; what never is written is false -/
def mOk (n : Nat) (kn : Bool) (wn V : Nat → Bool) : Prop := (kn = true → wn = V) ∧ wn 0 = false ∧ ∀ j, 2 * 2 ^ n ≤ j → wn j = false
theorem sd_wn_0 (n a : Nat) (S : Nat → Bool) : sd_wn n a S 0 = false := if_pos (Or.inl rfl)
theorem sd_wn_hi (n a : Nat) (S : Nat → Bool) (j : Nat) (h : 2 * 2 ^ n ≤ j) : sd_wn n a S j = false := if_pos (Or.inr h)
theorem mOk_wn (n a : Nat) (S : Nat → Bool) (kn : Bool) : mOk n kn (sd_wn n a S) (sd_wn n a S) := ⟨fun _ => rfl, sd_wn_0 n a S, sd_wn_hi n a S⟩
theorem mOk_no {n : Nat} {kn : Bool} {wn V : Nat → Bool} (U : Nat → Bool) (h : mOk n kn wn V) : mOk n false wn U := ⟨fun h9 => absurd h9 (by decide), h.2.1, h.2.2⟩
theorem hw_skm : ∀ i, i < 24 → (nI i = -1 ↔ (fun _ : Nat => false) i = true) := by decide +kernel
theorem hw_ski {i : Nat} (hi : i < 24) (j : Nat) (hj : j < 24) : nI j = nI i ↔ (fun k => k == i) j = true := by
  rw [nI_eq (by omega) (by omega)]
  exact beq_iff_eq.symm
theorem hw_xt {x y : Bool} (h : ¬ x = y) : true = (x == !y) := by cases x <;> cases y <;> first | rfl | exact absurd rfl h
theorem hw_xf {x y : Bool} (h : x = y) : false = (x == !y) := by cases x <;> cases y <;> first | rfl | exact absurd h (by decide)
/-- the values that led gathers -/
def sd_ld (n a : Nat) (S : Nat → Bool) (ab : Bool) (td : Nat) : Nat → Nat → Bool := fun d x => if a.testBit d = ab then sd_bm n a S d x else td.testBit d
theorem sd_pos_k {n d v : Nat} (hd : d ≤ n) (h : 2 ^ n ≤ 1024) : sd_pos d v < 2048 := by
  have h1 := sd_pos_b d v
  have h2 : 2 ^ d ≤ 2 ^ n := Nat.pow_le_pow_right (by decide) hd
  omega

set_option maxHeartbeats 4000000 in
set_option maxRecDepth 100000 in
theorem m_look (l : Launch) (D : va_G) (cI cZ : ClassId) (om my mz mv mt n a q d v u1 u2 : Nat) (kn mr : Bool) (sk : Int32) (Y Z : Nat → Nat) (T : Nat → Int32) (wn : Nat → Bool) (ok : dOk n a q d v Y Z) (sz : Nat) (mk : mOk n kn wn (sd_wn n a (fun w => sd_br Y Z q w == 0))) (hu1 : u1 < 2 ^ n) (hu2 : u2 < 2 ^ n) : Met l yX2_look (kX2_look :: aW) { frames := 3, cells := 0, slots := 0, locals := 67 } (wPre [.ref om] D [(om, .inr (2, [.int (nI n), .int (nI a), .int (nI q), .ref my, .ref mz, .int (bI kn), .int sk, .int (bI mr), .int (nI u1), .int (nI u2), .ref mv, .int (nI (sd_pos d v)), .int (nI d), .ref mt])), (my, .inl (cI, 24, .inl (fun jq => nI (Y jq)))), (mz, .inl (cI, 24, .inl (fun jq => nI (Z jq)))), (mv, .inl (cZ, 2048, .inl (fun jq => bI (wn jq)))), (mt, .inl (cI, 10, .inl T))] [(cI, .int), (cZ, .boolean)] sz) (wQ none D [(om, .inr (2, [.int (nI n), .int (nI a), .int (nI q), .ref my, .ref mz, .int (bI true), .int (if kn = true then sk else -1), .int (bI (kn && mr)), .int (nI u1), .int (nI u2), .ref mv, .int (nI (sd_pos d v)), .int (nI d), .ref mt])), (my, .inl (cI, 24, .inl (fun jq => nI (Y jq)))), (mz, .inl (cI, 24, .inl (fun jq => nI (Z jq)))), (mv, .inl (cZ, 2048, .inl (fun jq => bI ((sd_wn n a (fun w => sd_br Y Z q w == 0)) jq)))), (mt, .inl (cI, 10, .inl T))] (va_A [(om, .inr (2, [.int (nI n), .int (nI a), .int (nI q), .ref my, .ref mz, .int (bI kn), .int sk, .int (bI mr), .int (nI u1), .int (nI u2), .ref mv, .int (nI (sd_pos d v)), .int (nI d), .ref mt])), (my, .inl (cI, 24, .inl (fun jq => nI (Y jq)))), (mz, .inl (cI, 24, .inl (fun jq => nI (Z jq)))), (mv, .inl (cZ, 2048, .inl (fun jq => bI (wn jq)))), (mt, .inl (cI, 10, .inl T))] sz)) 0 0 (va_A [(om, .inr (2, [.int (nI n), .int (nI a), .int (nI q), .ref my, .ref mz, .int (bI kn), .int sk, .int (bI mr), .int (nI u1), .int (nI u2), .ref mv, .int (nI (sd_pos d v)), .int (nI d), .ref mt])), (my, .inl (cI, 24, .inl (fun jq => nI (Y jq)))), (mz, .inl (cI, 24, .inl (fun jq => nI (Z jq)))), (mv, .inl (cZ, 2048, .inl (fun jq => bI (wn jq)))), (mt, .inl (cI, 10, .inl T))] sz) := by
  obtain ⟨hn1, hn, ha, h5, hq, hY, hZ, hd, hv⟩ := id ok
  have h2n := hw_p10 hn
  refine Met.ofW (cc := cX2_look) (maxL := 1) (ret := none) (by decide) rfl ?_
  intro p e s m args below meth c s₁ Bo hml hpre
  obtain ⟨rfl, hsz, hP, hK, hN, hD0⟩ := hpre
  subst hsz
  have hD := hD0.self (sz := s.heap.size)
  generalize hAe : va_A [(om, .inr (2, [.int (nI n), .int (nI a), .int (nI q), .ref my, .ref mz, .int (bI kn), .int sk, .int (bI mr), .int (nI u1), .int (nI u2), .ref mv, .int (nI (sd_pos d v)), .int (nI d), .ref mt])), (my, .inl (cI, 24, .inl (fun jq => nI (Y jq)))), (mz, .inl (cI, 24, .inl (fun jq => nI (Z jq)))), (mv, .inl (cZ, 2048, .inl (fun jq => bI (wn jq)))), (mt, .inl (cI, 10, .inl T))] s.heap.size = A at hD ⊢
  have hA : ∀ q : Nat, s.heap.size ≤ q → A q := fun q h => by rw [← hAe]; exact Or.inr h
  have hS : va_S A s.heap s.heap [] := va_S.rf
  have hx := Bo.exec
  have hb := Bo.bytes
  have hr := Bo.returns
  have hts := atoms_spec (ws := kX2_look :: aW) Bo.pre
  have ht : ∀ w ∈ aW, w.before _ s = true := fun w h => hts w (List.mem_cons_of_mem _ h)
  have hown : s.vm.findClass RX2 = some m.cls := findClass_of_methodNamed Bo.named
  have hlocks := Bo.notSynchronized
  have hP : va_P D clS [(om, .inr (2, [.int (nI n), .int (nI a), .int (nI q), .ref my, .ref mz, .int (bI kn), .int sk, .int (bI mr), .int (nI u1), .int (nI u2), .ref mv, .int (nI (sd_pos d v)), .int (nI d), .ref mt])), (my, .inl (cI, 24, .inl (fun jq => nI (Y jq)))), (mz, .inl (cI, 24, .inl (fun jq => nI (Z jq)))), (mv, .inl (cZ, 2048, .inl (fun jq => bI (wn jq)))), (mt, .inl (cI, 10, .inl T))] s.heap := hP
  have hl := lv_entry ([.ref om]) (n := 1) (Nat.le_of_ble_eq_true rfl)
  rw [lg_entry_eq]
  generalize (lg_sl ([.ref om]) ++ List.replicate (1 - (lg_sl ([.ref om])).length) Slot.unset).toArray = ls at hl ⊢
  have hl : lv_has ls 1 [(0, .ref om)] := hl
  refine lv_aload_n hx hb dX2_look_0 rfl (lv_at hl 0 rfl) ?_
  refine va_get (D := D) (ci := 2) (v := .int (bI kn)) (C := RX2) (T := TX2) (N := 14) hx hb ht inX2 hown hK hP 0 rfl rfl 5 (by decide) (ht _ wf_X2_known) (fun _ h9 => h9) rfl dX2_look_1 ?_
  refine lv_if_eq (tgt := 8) hx hb dX2_look_4 rfl (fun h1 => ?_) (fun h1 => ?_)
  · have h1 : kn = false := (bI_eq0 _).mp h1
    refine lv_aload_n hx hb dX2_look_8 rfl (lv_at hl 0 rfl) ?_
    refine lv_iconst (v := (-1)) hx hb dX2_look_9 (by decide) ?_
    refine va_put (D := D) (ci := 2) (v := .int (-1)) (ty := .int) (C := RX2) (T := TX2) (N := 14) hx hb ht inX2 tyX2 tyX2_ok nmX2 hown hK hP hD hS 0 rfl rfl 6 (by decide) (ht _ wf_X2_skip) (fun _ h9 => h9) rfl (by decide +kernel) rfl rfl (Nat.le_of_ble_eq_true rfl) dX2_look_10 (fun H locs hP hD hS => ?_)
    have hP : va_P D clS [(om, .inr (2, [.int (nI n), .int (nI a), .int (nI q), .ref my, .ref mz, .int (bI kn), .int (-1), .int (bI mr), .int (nI u1), .int (nI u2), .ref mv, .int (nI (sd_pos d v)), .int (nI d), .ref mt])), (my, .inl (cI, 24, .inl (fun jq => nI (Y jq)))), (mz, .inl (cI, 24, .inl (fun jq => nI (Z jq)))), (mv, .inl (cZ, 2048, .inl (fun jq => bI (wn jq)))), (mt, .inl (cI, 10, .inl T))] H := hP
    have hD : va_D A [(om, .inr (2, [.int (nI n), .int (nI a), .int (nI q), .ref my, .ref mz, .int (bI kn), .int (-1), .int (bI mr), .int (nI u1), .int (nI u2), .ref mv, .int (nI (sd_pos d v)), .int (nI d), .ref mt])), (my, .inl (cI, 24, .inl (fun jq => nI (Y jq)))), (mz, .inl (cI, 24, .inl (fun jq => nI (Z jq)))), (mv, .inl (cZ, 2048, .inl (fun jq => bI (wn jq)))), (mt, .inl (cI, 10, .inl T))] := hD
    refine lv_aload_n hx hb dX2_look_13 rfl (lv_at hl 0 rfl) ?_
    refine lv_iconst (v := nI 0) hx hb dX2_look_14 (by decide) ?_
    refine va_put (D := D) (ci := 2) (v := .int (bI false)) (ty := .boolean) (C := RX2) (T := TX2) (N := 14) hx hb ht inX2 tyX2 tyX2_ok nmX2 hown hK hP hD hS 0 rfl rfl 7 (by decide) (ht _ wf_X2_more) (fun _ h9 => h9) rfl (by decide +kernel) (bI_nar _) (bI_fit _) (Nat.le_of_ble_eq_true rfl) dX2_look_15 (fun H locs hP hD hS => ?_)
    have hP : va_P D clS [(om, .inr (2, [.int (nI n), .int (nI a), .int (nI q), .ref my, .ref mz, .int (bI kn), .int (-1), .int (bI false), .int (nI u1), .int (nI u2), .ref mv, .int (nI (sd_pos d v)), .int (nI d), .ref mt])), (my, .inl (cI, 24, .inl (fun jq => nI (Y jq)))), (mz, .inl (cI, 24, .inl (fun jq => nI (Z jq)))), (mv, .inl (cZ, 2048, .inl (fun jq => bI (wn jq)))), (mt, .inl (cI, 10, .inl T))] H := hP
    have hD : va_D A [(om, .inr (2, [.int (nI n), .int (nI a), .int (nI q), .ref my, .ref mz, .int (bI kn), .int (-1), .int (bI false), .int (nI u1), .int (nI u2), .ref mv, .int (nI (sd_pos d v)), .int (nI d), .ref mt])), (my, .inl (cI, 24, .inl (fun jq => nI (Y jq)))), (mz, .inl (cI, 24, .inl (fun jq => nI (Z jq)))), (mv, .inl (cZ, 2048, .inl (fun jq => bI (wn jq)))), (mt, .inl (cI, 10, .inl T))] := hD
    refine lv_aload_n hx hb dX2_look_18 rfl (lv_at hl 0 rfl) ?_
    refine hw_callW (ws' := [(om, .inr (2, [.int (nI n), .int (nI a), .int (nI q), .ref my, .ref mz, .int (bI kn), .int (-1), .int (bI false), .int (nI u1), .int (nI u2), .ref mv, .int (nI (sd_pos d v)), .int (nI d), .ref mt])), (my, .inl (cI, 24, .inl (fun jq => nI (Y jq)))), (mz, .inl (cI, 24, .inl (fun jq => nI (Z jq)))), (mv, .inl (cZ, 2048, .inl (fun jq => bI ((sd_wn n a (fun w => sd_br Y Z q w == 0)) jq)))), (mt, .inl (cI, 10, .inl T))]) (va_runV (b := om) (As := []) (rest := []) ⟨hx, hb, hml, hown, ht⟩ (m_fill l D cI cZ om my mz mv mt n a q d v u1 u2 kn false (-1) Y Z T wn ok H.size (fun w => sd_br Y Z q w == 0) (fun _ => false) hu1 hu2 hw_skm (fun w _ => sd_al_n Y Z _ w q (fun _ _ => rfl)) mk.2.1 mk.2.2) (cwV 0 ht (gV wm_X2_X2_fill wi_X2_fill ws_X2_fill wn_X2 wc_X2_fill) rfl rfl rfl (by decide +kernel) ⟨Nat.le_of_ble_eq_true rfl, Nat.le_of_ble_eq_true rfl⟩) (wPre_V 0 hP hD hK hN rfl rfl) rfl rfl hl.1 rfl (lv_room (Nat.le_of_ble_eq_true rfl)) dX2_look_19 ⟨Nat.zero_le _, Nat.zero_le _⟩) hD hS hA rfl (fun H locs hP hD hS => ?_)
    have hP : va_P D clS [(om, .inr (2, [.int (nI n), .int (nI a), .int (nI q), .ref my, .ref mz, .int (bI kn), .int (-1), .int (bI false), .int (nI u1), .int (nI u2), .ref mv, .int (nI (sd_pos d v)), .int (nI d), .ref mt])), (my, .inl (cI, 24, .inl (fun jq => nI (Y jq)))), (mz, .inl (cI, 24, .inl (fun jq => nI (Z jq)))), (mv, .inl (cZ, 2048, .inl (fun jq => bI ((sd_wn n a (fun w => sd_br Y Z q w == 0)) jq)))), (mt, .inl (cI, 10, .inl T))] H := hP
    have hD : va_D A [(om, .inr (2, [.int (nI n), .int (nI a), .int (nI q), .ref my, .ref mz, .int (bI kn), .int (-1), .int (bI false), .int (nI u1), .int (nI u2), .ref mv, .int (nI (sd_pos d v)), .int (nI d), .ref mt])), (my, .inl (cI, 24, .inl (fun jq => nI (Y jq)))), (mz, .inl (cI, 24, .inl (fun jq => nI (Z jq)))), (mv, .inl (cZ, 2048, .inl (fun jq => bI ((sd_wn n a (fun w => sd_br Y Z q w == 0)) jq)))), (mt, .inl (cI, 10, .inl T))] := hD
    refine W.eq (g2 := F0 m 22 ls []) rfl ?_
    refine lv_aload_n hx hb dX2_look_22 rfl (lv_at hl 0 rfl) ?_
    refine lv_iconst (v := nI 1) hx hb dX2_look_23 (by decide) ?_
    refine va_put (D := D) (ci := 2) (v := .int (bI true)) (ty := .boolean) (C := RX2) (T := TX2) (N := 14) hx hb ht inX2 tyX2 tyX2_ok nmX2 hown hK hP hD hS 0 rfl rfl 5 (by decide) (ht _ wf_X2_known) (fun _ h9 => h9) rfl (by decide +kernel) (bI_nar _) (bI_fit _) (Nat.le_of_ble_eq_true rfl) dX2_look_24 (fun H locs hP hD hS => ?_)
    have hP : va_P D clS [(om, .inr (2, [.int (nI n), .int (nI a), .int (nI q), .ref my, .ref mz, .int (bI true), .int (-1), .int (bI false), .int (nI u1), .int (nI u2), .ref mv, .int (nI (sd_pos d v)), .int (nI d), .ref mt])), (my, .inl (cI, 24, .inl (fun jq => nI (Y jq)))), (mz, .inl (cI, 24, .inl (fun jq => nI (Z jq)))), (mv, .inl (cZ, 2048, .inl (fun jq => bI ((sd_wn n a (fun w => sd_br Y Z q w == 0)) jq)))), (mt, .inl (cI, 10, .inl T))] H := hP
    have hD : va_D A [(om, .inr (2, [.int (nI n), .int (nI a), .int (nI q), .ref my, .ref mz, .int (bI true), .int (-1), .int (bI false), .int (nI u1), .int (nI u2), .ref mv, .int (nI (sd_pos d v)), .int (nI d), .ref mt])), (my, .inl (cI, 24, .inl (fun jq => nI (Y jq)))), (mz, .inl (cI, 24, .inl (fun jq => nI (Z jq)))), (mv, .inl (cZ, 2048, .inl (fun jq => bI ((sd_wn n a (fun w => sd_br Y Z q w == 0)) jq)))), (mt, .inl (cI, 10, .inl T))] := hD
    subst h1
    exact W.vret hx hb hr (fun t ht2 _ => ⟨rfl, by rw [ht2]; exact hP, hS.F ht2⟩) hS.2.2 dX2_look_27
  · have h1 : kn = true := bI_ne0 h1
    have hwn := mk.1 h1
    subst hwn
    subst h1
    exact W.vret hx hb hr (fun t ht2 _ => ⟨rfl, by rw [ht2]; exact hP, hS.F ht2⟩) hS.2.2 dX2_look_7

set_option maxHeartbeats 4000000 in
set_option maxRecDepth 100000 in
theorem m_move (l : Launch) (D : va_G) (cI cZ : ClassId) (om my mz mv mt n a q d v u1 u2 : Nat) (kn mr : Bool) (sk : Int32) (Y Z : Nat → Nat) (T : Nat → Int32) (wn : Nat → Bool) (ok : dOk n a q d v Y Z) (i w : Nat) (hi : i < n) (hw : w < 2 ^ i) : Met l yX2_move (kX2_move :: aW) { frames := 1, cells := 0, slots := 0, locals := 21 } (rPre [.ref om, .int (nI (sd_pos i w)), .int (nI i)] D [(om, .inr (2, [.int (nI n), .int (nI a), .int (nI q), .ref my, .ref mz, .int (bI kn), .int sk, .int (bI mr), .int (nI u1), .int (nI u2), .ref mv, .int (nI (sd_pos d v)), .int (nI d), .ref mt])), (my, .inl (cI, 24, .inl (fun jq => nI (Y jq)))), (mz, .inl (cI, 24, .inl (fun jq => nI (Z jq)))), (mv, .inl (cZ, 2048, .inl (fun jq => bI ((sd_wn n a (fun w => sd_br Y Z q w == 0)) jq)))), (mt, .inl (cI, 10, .inl T))] [(cI, .int), (cZ, .boolean)]) (QcRead (bI (sd_bm n a (fun w => sd_br Y Z q w == 0) i w))) 0 0 (fun _ => False) := by
  obtain ⟨hn1, hn, ha, h5, hq, hY, hZ, hd, hv⟩ := id ok
  have h2n := hw_p10 hn
  refine Met.ofW (cc := cX2_move) (maxL := 5) (ret := (some .int)) (by decide) rfl ?_
  intro p e s m args below meth c s₁ Bo hml hpre
  obtain ⟨rfl, hP, hK, hN⟩ := hpre
  have hx := Bo.exec
  have hb := Bo.bytes
  have hr := Bo.returns
  have hts := atoms_spec (ws := kX2_move :: aW) Bo.pre
  have ht : ∀ w ∈ aW, w.before _ s = true := fun w h => hts w (List.mem_cons_of_mem _ h)
  have hown : s.vm.findClass RX2 = some m.cls := findClass_of_methodNamed Bo.named
  have hlocks := Bo.notSynchronized
  have hP : va_P D clS [(om, .inr (2, [.int (nI n), .int (nI a), .int (nI q), .ref my, .ref mz, .int (bI kn), .int sk, .int (bI mr), .int (nI u1), .int (nI u2), .ref mv, .int (nI (sd_pos d v)), .int (nI d), .ref mt])), (my, .inl (cI, 24, .inl (fun jq => nI (Y jq)))), (mz, .inl (cI, 24, .inl (fun jq => nI (Z jq)))), (mv, .inl (cZ, 2048, .inl (fun jq => bI ((sd_wn n a (fun w => sd_br Y Z q w == 0)) jq)))), (mt, .inl (cI, 10, .inl T))] s.heap := hP
  have hl := lv_entry ([.ref om, .int (nI (sd_pos i w)), .int (nI i)]) (n := 5) (Nat.le_of_ble_eq_true rfl)
  rw [lg_entry_eq]
  generalize (lg_sl ([.ref om, .int (nI (sd_pos i w)), .int (nI i)]) ++ List.replicate (5 - (lg_sl ([.ref om, .int (nI (sd_pos i w)), .int (nI i)])).length) Slot.unset).toArray = ls at hl ⊢
  have hl : lv_has ls 5 [(0, .ref om), (1, .int (nI (sd_pos i w))), (2, .int (nI i))] := hl
  have hpb := sd_pos_b i w
  have hp := Nat.two_pow_succ i
  have hin9 : 2 ^ (i + 1) ≤ 2 ^ n := Nat.pow_le_pow_right (by decide) hi
  refine lv_aload_n hx hb dX2_move_0 rfl (lv_at hl 0 rfl) ?_
  refine va_get (D := D) (ci := 2) (v := .ref mv) (C := RX2) (T := TX2) (N := 14) hx hb ht inX2 hown hK hP 0 rfl rfl 10 (by decide) (ht _ wf_X2_win) (fun _ h9 => h9) rfl dX2_move_1 ?_
  refine lv_iconst (v := nI 2) hx hb dX2_move_4 (by decide) ?_
  refine lv_iload_n hx hb dX2_move_5 rfl (lv_at hl 1 rfl) ?_
  refine lv_imul hx hb dX2_move_6 ?_
  refine lv_nm (y := nI (2 * (sd_pos i w))) (pk_mul _ _) ?_
  refine na_zald (f := sd_wn n a (fun w => sd_br Y Z q w == 0)) hx hb hK hP 3 1 rfl rfl (j := 2 * (sd_pos i w)) (by omega) (by omega) dX2_move_7 ?_
  refine lv_nm (y := bI (sd_E n a (fun w => sd_br Y Z q w == 0) (i + 1) w)) (congrArg bI (by rw [← sd_pos_0 hw]; exact sd_wn_at hi (by omega))) ?_
  refine lv_aload_n hx hb dX2_move_8 rfl (lv_at hl 0 rfl) ?_
  refine lv_iload_n hx hb dX2_move_9 rfl (lv_at hl 2 rfl) ?_
  refine hw_callR (va_runV (b := om) (As := [.int (nI i)]) (rest := [.int (bI (sd_E n a (fun w => sd_br Y Z q w == 0) (i + 1) w))]) ⟨hx, hb, hml, hown, ht⟩ (m_isAdams l D cI cZ om my mz mv mt n a q d v u1 u2 kn mr sk Y Z T (sd_wn n a (fun w => sd_br Y Z q w == 0)) ok i (by omega)) (cwV 1 ht (gV wm_X2_X2_isAdams wi_X2_isAdams ws_X2_isAdams wn_X2 wc_X2_isAdams) rfl rfl rfl (by decide +kernel) ⟨Nat.le_of_ble_eq_true rfl, Nat.le_of_ble_eq_true rfl⟩) (rPre_V 0 hP hK hN rfl rfl) rfl rfl hl.1 rfl (lv_room (Nat.le_of_ble_eq_true rfl)) dX2_move_10 ⟨Nat.zero_le _, Nat.zero_le _⟩) ?_
  suffices mk : W p l e (headSpec (kX2_move :: aW) { frames := 1, cells := 0, slots := 0, locals := 21 }).room s m (([.ref om, .int (nI (sd_pos i w)), .int (nI i)] : List Value).toArray) below meth c s.heap [] 0 0 (MQ below (QcRead (bI (sd_bm n a (fun w => sd_br Y Z q w == 0) i w))) (([.ref om, .int (nI (sd_pos i w)), .int (nI i)] : List Value).toArray) s 0 0 (fun _ => False)) (F0 m 21 ls [.int (bI (sd_E n a (fun w => sd_br Y Z q w == 0) (i + 1) w == !a.testBit i))]) by
    refine lv_icmp_eq (tgt := 20) hx hb dX2_move_13 rfl (fun h1 => ?_) (fun h1 => ?_)
    · have h1 : (sd_E n a (fun w => sd_br Y Z q w == 0) (i + 1) w) = (a.testBit i) := (bI_inj _ _).mp h1
      refine lv_iconst (v := nI 0) hx hb dX2_move_20 (by decide) ?_
      refine lv_nm (y := bI (sd_E n a (fun w => sd_br Y Z q w == 0) (i + 1) w == !a.testBit i)) (hw_0.trans (congrArg bI (show false = (sd_E n a (fun w => sd_br Y Z q w == 0) (i + 1) w == !a.testBit i) by first | exact hw_xt h1 | exact hw_xf h1))) ?_
      exact mk
    · have h1 : ¬ (sd_E n a (fun w => sd_br Y Z q w == 0) (i + 1) w) = (a.testBit i) := fun h9 => h1 ((bI_inj _ _).mpr h9)
      refine lv_iconst (v := nI 1) hx hb dX2_move_16 (by decide) ?_
      refine lv_goto (tgt := 21) hx hb dX2_move_17 rfl ?_
      refine lv_nm (y := bI (sd_E n a (fun w => sd_br Y Z q w == 0) (i + 1) w == !a.testBit i)) (hw_1.trans (congrArg bI (show true = (sd_E n a (fun w => sd_br Y Z q w == 0) (i + 1) w == !a.testBit i) by first | exact hw_xt h1 | exact hw_xf h1))) ?_
      exact mk
  refine lv_istore_n hx hb dX2_move_21 rfl hl (by decide) rfl (fun ls hl => ?_)
  have hl : lv_has ls 5 [(3, .int (bI (sd_E n a (fun w => sd_br Y Z q w == 0) (i + 1) w == !a.testBit i))), (0, .ref om), (1, .int (nI (sd_pos i w))), (2, .int (nI i))] := hl
  refine lv_aload_n hx hb dX2_move_22 rfl (lv_at hl 1 rfl) ?_
  refine va_get (D := D) (ci := 2) (v := .ref mv) (C := RX2) (T := TX2) (N := 14) hx hb ht inX2 hown hK hP 0 rfl rfl 10 (by decide) (ht _ wf_X2_win) (fun _ h9 => h9) rfl dX2_move_23 ?_
  refine lv_iconst (v := nI 2) hx hb dX2_move_26 (by decide) ?_
  refine lv_iload_n hx hb dX2_move_27 rfl (lv_at hl 2 rfl) ?_
  refine lv_imul hx hb dX2_move_28 ?_
  refine lv_nm (y := nI (2 * (sd_pos i w))) (pk_mul _ _) ?_
  refine lv_iconst (v := nI 1) hx hb dX2_move_29 (by decide) ?_
  refine lv_iadd hx hb dX2_move_30 ?_
  refine lv_nm (y := nI ((2 * (sd_pos i w)) + 1)) (nI_add _ _) ?_
  refine na_zald (f := sd_wn n a (fun w => sd_br Y Z q w == 0)) hx hb hK hP 3 1 rfl rfl (j := (2 * (sd_pos i w)) + 1) (by omega) (by omega) dX2_move_31 ?_
  refine lv_nm (y := bI (sd_E n a (fun w => sd_br Y Z q w == 0) (i + 1) (w + 2 ^ i))) (congrArg bI (by rw [← sd_pos_1 hw]; exact sd_wn_at hi (by omega))) ?_
  refine lv_aload_n hx hb dX2_move_32 rfl (lv_at hl 1 rfl) ?_
  refine lv_iload_n hx hb dX2_move_33 rfl (lv_at hl 3 rfl) ?_
  refine hw_callR (va_runV (b := om) (As := [.int (nI i)]) (rest := [.int (bI (sd_E n a (fun w => sd_br Y Z q w == 0) (i + 1) (w + 2 ^ i)))]) ⟨hx, hb, hml, hown, ht⟩ (m_isAdams l D cI cZ om my mz mv mt n a q d v u1 u2 kn mr sk Y Z T (sd_wn n a (fun w => sd_br Y Z q w == 0)) ok i (by omega)) (cwV 1 ht (gV wm_X2_X2_isAdams wi_X2_isAdams ws_X2_isAdams wn_X2 wc_X2_isAdams) rfl rfl rfl (by decide +kernel) ⟨Nat.le_of_ble_eq_true rfl, Nat.le_of_ble_eq_true rfl⟩) (rPre_V 0 hP hK hN rfl rfl) rfl rfl hl.1 rfl (lv_room (Nat.le_of_ble_eq_true rfl)) dX2_move_34 ⟨Nat.zero_le _, Nat.zero_le _⟩) ?_
  suffices mk : W p l e (headSpec (kX2_move :: aW) { frames := 1, cells := 0, slots := 0, locals := 21 }).room s m (([.ref om, .int (nI (sd_pos i w)), .int (nI i)] : List Value).toArray) below meth c s.heap [] 0 0 (MQ below (QcRead (bI (sd_bm n a (fun w => sd_br Y Z q w == 0) i w))) (([.ref om, .int (nI (sd_pos i w)), .int (nI i)] : List Value).toArray) s 0 0 (fun _ => False)) (F0 m 45 ls [.int (bI (sd_E n a (fun w => sd_br Y Z q w == 0) (i + 1) (w + 2 ^ i) == !a.testBit i))]) by
    refine lv_icmp_eq (tgt := 44) hx hb dX2_move_37 rfl (fun h1 => ?_) (fun h1 => ?_)
    · have h1 : (sd_E n a (fun w => sd_br Y Z q w == 0) (i + 1) (w + 2 ^ i)) = (a.testBit i) := (bI_inj _ _).mp h1
      refine lv_iconst (v := nI 0) hx hb dX2_move_44 (by decide) ?_
      refine lv_nm (y := bI (sd_E n a (fun w => sd_br Y Z q w == 0) (i + 1) (w + 2 ^ i) == !a.testBit i)) (hw_0.trans (congrArg bI (show false = (sd_E n a (fun w => sd_br Y Z q w == 0) (i + 1) (w + 2 ^ i) == !a.testBit i) by first | exact hw_xt h1 | exact hw_xf h1))) ?_
      exact mk
    · have h1 : ¬ (sd_E n a (fun w => sd_br Y Z q w == 0) (i + 1) (w + 2 ^ i)) = (a.testBit i) := fun h9 => h1 ((bI_inj _ _).mpr h9)
      refine lv_iconst (v := nI 1) hx hb dX2_move_40 (by decide) ?_
      refine lv_goto (tgt := 45) hx hb dX2_move_41 rfl ?_
      refine lv_nm (y := bI (sd_E n a (fun w => sd_br Y Z q w == 0) (i + 1) (w + 2 ^ i) == !a.testBit i)) (hw_1.trans (congrArg bI (show true = (sd_E n a (fun w => sd_br Y Z q w == 0) (i + 1) (w + 2 ^ i) == !a.testBit i) by first | exact hw_xt h1 | exact hw_xf h1))) ?_
      exact mk
  refine lv_istore hx hb dX2_move_45 hl (by decide) rfl (fun ls hl => ?_)
  have hl : lv_has ls 5 [(4, .int (bI (sd_E n a (fun w => sd_br Y Z q w == 0) (i + 1) (w + 2 ^ i) == !a.testBit i))), (3, .int (bI (sd_E n a (fun w => sd_br Y Z q w == 0) (i + 1) w == !a.testBit i))), (0, .ref om), (1, .int (nI (sd_pos i w))), (2, .int (nI i))] := hl
  refine lv_iload_n hx hb dX2_move_47 rfl (lv_at hl 1 rfl) ?_
  suffices mk : W p l e (headSpec (kX2_move :: aW) { frames := 1, cells := 0, slots := 0, locals := 21 }).room s m (([.ref om, .int (nI (sd_pos i w)), .int (nI i)] : List Value).toArray) below meth c s.heap [] 0 0 (MQ below (QcRead (bI (sd_bm n a (fun w => sd_br Y Z q w == 0) i w))) (([.ref om, .int (nI (sd_pos i w)), .int (nI i)] : List Value).toArray) s 0 0 (fun _ => False)) (F0 m 61 ls [.int (bI (sd_bm n a (fun w => sd_br Y Z q w == 0) i w))]) by
    refine lv_if_ne (tgt := 60) hx hb dX2_move_48 rfl (fun h1 => ?_) (fun h1 => ?_)
    · have h1 : (sd_E n a (fun w => sd_br Y Z q w == 0) (i + 1) w == !a.testBit i) = true := bI_ne0 h1
      refine lv_iconst (v := nI 0) hx hb dX2_move_60 (by decide) ?_
      refine lv_nm (y := bI (sd_bm n a (fun w => sd_br Y Z q w == 0) i w)) (hw_0.trans (congrArg bI (show false = (sd_bm n a (fun w => sd_br Y Z q w == 0) i w) by unfold sd_bm; rw [h1]; rfl))) ?_
      exact mk
    · have h1 : (sd_E n a (fun w => sd_br Y Z q w == 0) (i + 1) w == !a.testBit i) = false := (bI_eq0 _).mp h1
      refine lv_iload hx hb dX2_move_51 (lv_at hl 0 rfl) ?_
      refine lv_if_eq (tgt := 60) hx hb dX2_move_53 rfl (fun h2 => ?_) (fun h2 => ?_)
      · have h2 : (sd_E n a (fun w => sd_br Y Z q w == 0) (i + 1) (w + 2 ^ i) == !a.testBit i) = false := (bI_eq0 _).mp h2
        refine lv_iconst (v := nI 0) hx hb dX2_move_60 (by decide) ?_
        refine lv_nm (y := bI (sd_bm n a (fun w => sd_br Y Z q w == 0) i w)) (hw_0.trans (congrArg bI (show false = (sd_bm n a (fun w => sd_br Y Z q w == 0) i w) by unfold sd_bm; rw [h1, h2]; rfl))) ?_
        exact mk
      · have h2 : (sd_E n a (fun w => sd_br Y Z q w == 0) (i + 1) (w + 2 ^ i) == !a.testBit i) = true := bI_ne0 h2
        refine lv_iconst (v := nI 1) hx hb dX2_move_56 (by decide) ?_
        refine lv_goto (tgt := 61) hx hb dX2_move_57 rfl ?_
        refine lv_nm (y := bI (sd_bm n a (fun w => sd_br Y Z q w == 0) i w)) (hw_1.trans (congrArg bI (show true = (sd_bm n a (fun w => sd_br Y Z q w == 0) i w) by unfold sd_bm; rw [h1, h2]; rfl))) ?_
        exact mk
  exact W.iret hx hb hr (fun t ht2 _ => ⟨hw_ret (rfl), ht2⟩) (fun _ h => by cases h) dX2_move_61

set_option maxHeartbeats 4000000 in
set_option maxRecDepth 100000 in
theorem m_wins (l : Launch) (D : va_G) (cI cZ : ClassId) (om my mz mv mt n a q d v u1 u2 : Nat) (kn mr : Bool) (sk : Int32) (Y Z : Nat → Nat) (T : Nat → Int32) (wn : Nat → Bool) (ok : dOk n a q d v Y Z) (sz : Nat) (mk : mOk n kn wn (sd_wn n a (fun w => sd_br Y Z q w == 0))) (hu1 : u1 < 2 ^ n) (hu2 : u2 < 2 ^ n) : Met l yX2_wins (kX2_wins :: aW) { frames := 4, cells := 0, slots := 0, locals := 87 } (wPre [.ref om] D [(om, .inr (2, [.int (nI n), .int (nI a), .int (nI q), .ref my, .ref mz, .int (bI kn), .int sk, .int (bI mr), .int (nI u1), .int (nI u2), .ref mv, .int (nI (sd_pos d v)), .int (nI d), .ref mt])), (my, .inl (cI, 24, .inl (fun jq => nI (Y jq)))), (mz, .inl (cI, 24, .inl (fun jq => nI (Z jq)))), (mv, .inl (cZ, 2048, .inl (fun jq => bI (wn jq)))), (mt, .inl (cI, 10, .inl T))] [(cI, .int), (cZ, .boolean)] sz) (wQ (some (.int (bI (sd_E n a (fun w => sd_br Y Z q w == 0) d v)))) D [(om, .inr (2, [.int (nI n), .int (nI a), .int (nI q), .ref my, .ref mz, .int (bI true), .int (if kn = true then sk else -1), .int (bI (kn && mr)), .int (nI u1), .int (nI u2), .ref mv, .int (nI (sd_pos d v)), .int (nI d), .ref mt])), (my, .inl (cI, 24, .inl (fun jq => nI (Y jq)))), (mz, .inl (cI, 24, .inl (fun jq => nI (Z jq)))), (mv, .inl (cZ, 2048, .inl (fun jq => bI ((sd_wn n a (fun w => sd_br Y Z q w == 0)) jq)))), (mt, .inl (cI, 10, .inl T))] (va_A [(om, .inr (2, [.int (nI n), .int (nI a), .int (nI q), .ref my, .ref mz, .int (bI kn), .int sk, .int (bI mr), .int (nI u1), .int (nI u2), .ref mv, .int (nI (sd_pos d v)), .int (nI d), .ref mt])), (my, .inl (cI, 24, .inl (fun jq => nI (Y jq)))), (mz, .inl (cI, 24, .inl (fun jq => nI (Z jq)))), (mv, .inl (cZ, 2048, .inl (fun jq => bI (wn jq)))), (mt, .inl (cI, 10, .inl T))] sz)) 0 0 (va_A [(om, .inr (2, [.int (nI n), .int (nI a), .int (nI q), .ref my, .ref mz, .int (bI kn), .int sk, .int (bI mr), .int (nI u1), .int (nI u2), .ref mv, .int (nI (sd_pos d v)), .int (nI d), .ref mt])), (my, .inl (cI, 24, .inl (fun jq => nI (Y jq)))), (mz, .inl (cI, 24, .inl (fun jq => nI (Z jq)))), (mv, .inl (cZ, 2048, .inl (fun jq => bI (wn jq)))), (mt, .inl (cI, 10, .inl T))] sz) := by
  obtain ⟨hn1, hn, ha, h5, hq, hY, hZ, hd, hv⟩ := id ok
  have h2n := hw_p10 hn
  refine Met.ofW (cc := cX2_wins) (maxL := 1) (ret := (some .boolean)) (by decide) rfl ?_
  intro p e s m args below meth c s₁ Bo hml hpre
  obtain ⟨rfl, hsz, hP, hK, hN, hD0⟩ := hpre
  subst hsz
  have hD := hD0.self (sz := s.heap.size)
  generalize hAe : va_A [(om, .inr (2, [.int (nI n), .int (nI a), .int (nI q), .ref my, .ref mz, .int (bI kn), .int sk, .int (bI mr), .int (nI u1), .int (nI u2), .ref mv, .int (nI (sd_pos d v)), .int (nI d), .ref mt])), (my, .inl (cI, 24, .inl (fun jq => nI (Y jq)))), (mz, .inl (cI, 24, .inl (fun jq => nI (Z jq)))), (mv, .inl (cZ, 2048, .inl (fun jq => bI (wn jq)))), (mt, .inl (cI, 10, .inl T))] s.heap.size = A at hD ⊢
  have hA : ∀ q : Nat, s.heap.size ≤ q → A q := fun q h => by rw [← hAe]; exact Or.inr h
  have hS : va_S A s.heap s.heap [] := va_S.rf
  have hx := Bo.exec
  have hb := Bo.bytes
  have hr := Bo.returns
  have hts := atoms_spec (ws := kX2_wins :: aW) Bo.pre
  have ht : ∀ w ∈ aW, w.before _ s = true := fun w h => hts w (List.mem_cons_of_mem _ h)
  have hown : s.vm.findClass RX2 = some m.cls := findClass_of_methodNamed Bo.named
  have hlocks := Bo.notSynchronized
  have hP : va_P D clS [(om, .inr (2, [.int (nI n), .int (nI a), .int (nI q), .ref my, .ref mz, .int (bI kn), .int sk, .int (bI mr), .int (nI u1), .int (nI u2), .ref mv, .int (nI (sd_pos d v)), .int (nI d), .ref mt])), (my, .inl (cI, 24, .inl (fun jq => nI (Y jq)))), (mz, .inl (cI, 24, .inl (fun jq => nI (Z jq)))), (mv, .inl (cZ, 2048, .inl (fun jq => bI (wn jq)))), (mt, .inl (cI, 10, .inl T))] s.heap := hP
  have hl := lv_entry ([.ref om]) (n := 1) (Nat.le_of_ble_eq_true rfl)
  rw [lg_entry_eq]
  generalize (lg_sl ([.ref om]) ++ List.replicate (1 - (lg_sl ([.ref om])).length) Slot.unset).toArray = ls at hl ⊢
  have hl : lv_has ls 1 [(0, .ref om)] := hl
  have hpk := sd_pos_k (v := v) hd h2n
  refine lv_aload_n hx hb dX2_wins_0 rfl (lv_at hl 0 rfl) ?_
  refine hw_callW (ws' := [(om, .inr (2, [.int (nI n), .int (nI a), .int (nI q), .ref my, .ref mz, .int (bI true), .int (if kn = true then sk else -1), .int (bI (kn && mr)), .int (nI u1), .int (nI u2), .ref mv, .int (nI (sd_pos d v)), .int (nI d), .ref mt])), (my, .inl (cI, 24, .inl (fun jq => nI (Y jq)))), (mz, .inl (cI, 24, .inl (fun jq => nI (Z jq)))), (mv, .inl (cZ, 2048, .inl (fun jq => bI ((sd_wn n a (fun w => sd_br Y Z q w == 0)) jq)))), (mt, .inl (cI, 10, .inl T))]) (va_runV (b := om) (As := []) (rest := []) ⟨hx, hb, hml, hown, ht⟩ (m_look l D cI cZ om my mz mv mt n a q d v u1 u2 kn mr sk Y Z T wn ok s.heap.size mk hu1 hu2) (cwV 0 ht (gV wm_X2_X2_look wi_X2_look ws_X2_look wn_X2 wc_X2_look) rfl rfl rfl (by decide +kernel) ⟨Nat.le_of_ble_eq_true rfl, Nat.le_of_ble_eq_true rfl⟩) (wPre_V 0 hP hD hK hN rfl rfl) rfl rfl hl.1 rfl (lv_room (Nat.le_of_ble_eq_true rfl)) dX2_wins_1 ⟨Nat.zero_le _, Nat.zero_le _⟩) hD hS hA rfl (fun H locs hP hD hS => ?_)
  have hP : va_P D clS [(om, .inr (2, [.int (nI n), .int (nI a), .int (nI q), .ref my, .ref mz, .int (bI true), .int (if kn = true then sk else -1), .int (bI (kn && mr)), .int (nI u1), .int (nI u2), .ref mv, .int (nI (sd_pos d v)), .int (nI d), .ref mt])), (my, .inl (cI, 24, .inl (fun jq => nI (Y jq)))), (mz, .inl (cI, 24, .inl (fun jq => nI (Z jq)))), (mv, .inl (cZ, 2048, .inl (fun jq => bI ((sd_wn n a (fun w => sd_br Y Z q w == 0)) jq)))), (mt, .inl (cI, 10, .inl T))] H := hP
  have hD : va_D A [(om, .inr (2, [.int (nI n), .int (nI a), .int (nI q), .ref my, .ref mz, .int (bI true), .int (if kn = true then sk else -1), .int (bI (kn && mr)), .int (nI u1), .int (nI u2), .ref mv, .int (nI (sd_pos d v)), .int (nI d), .ref mt])), (my, .inl (cI, 24, .inl (fun jq => nI (Y jq)))), (mz, .inl (cI, 24, .inl (fun jq => nI (Z jq)))), (mv, .inl (cZ, 2048, .inl (fun jq => bI ((sd_wn n a (fun w => sd_br Y Z q w == 0)) jq)))), (mt, .inl (cI, 10, .inl T))] := hD
  refine W.eq (g2 := F0 m 4 ls []) rfl ?_
  refine lv_aload_n hx hb dX2_wins_4 rfl (lv_at hl 0 rfl) ?_
  refine va_get (D := D) (ci := 2) (v := .ref mv) (C := RX2) (T := TX2) (N := 14) hx hb ht inX2 hown hK hP 0 rfl rfl 10 (by decide) (ht _ wf_X2_win) (fun _ h9 => h9) rfl dX2_wins_5 ?_
  refine lv_aload_n hx hb dX2_wins_8 rfl (lv_at hl 0 rfl) ?_
  refine va_get (D := D) (ci := 2) (v := .int (nI (sd_pos d v))) (C := RX2) (T := TX2) (N := 14) hx hb ht inX2 hown hK hP 0 rfl rfl 11 (by decide) (ht _ wf_X2_position) (fun _ h9 => h9) rfl dX2_wins_9 ?_
  refine na_zald (f := sd_wn n a (fun w => sd_br Y Z q w == 0)) hx hb hK hP 3 1 rfl rfl (j := sd_pos d v) (by omega) (by omega) dX2_wins_12 ?_
  refine lv_nm (y := bI (sd_E n a (fun w => sd_br Y Z q w == 0) d v)) (congrArg bI (sd_wn_at hd hv)) ?_
  exact W.zret hx hb hr (bI_nar _) (fun t ht2 _ => ⟨hw_ret (rfl), by rw [ht2]; exact hP, hS.F ht2⟩) hS.2.2 dX2_wins_13

set_option maxHeartbeats 4000000 in
set_option maxRecDepth 100000 in
theorem m_best (l : Launch) (D : va_G) (cI cZ : ClassId) (om my mz mv mt n a q d v u1 u2 : Nat) (kn mr : Bool) (sk : Int32) (Y Z : Nat → Nat) (T : Nat → Int32) (wn : Nat → Bool) (ok : dOk n a q d v Y Z) (sz : Nat) (mk : mOk n kn wn (sd_wn n a (fun w => sd_br Y Z q w == 0))) (hu1 : u1 < 2 ^ n) (hu2 : u2 < 2 ^ n) : Met l yX2_best (kX2_best :: aW) { frames := 4, cells := 0, slots := 0, locals := 87 } (wPre [.ref om] D [(om, .inr (2, [.int (nI n), .int (nI a), .int (nI q), .ref my, .ref mz, .int (bI kn), .int sk, .int (bI mr), .int (nI u1), .int (nI u2), .ref mv, .int (nI (sd_pos d v)), .int (nI d), .ref mt])), (my, .inl (cI, 24, .inl (fun jq => nI (Y jq)))), (mz, .inl (cI, 24, .inl (fun jq => nI (Z jq)))), (mv, .inl (cZ, 2048, .inl (fun jq => bI (wn jq)))), (mt, .inl (cI, 10, .inl T))] [(cI, .int), (cZ, .boolean)] sz) (wQ (some (.int (if d < n then bI (sd_bm n a (fun w => sd_br Y Z q w == 0) d v) else -1))) D [(om, .inr (2, [.int (nI n), .int (nI a), .int (nI q), .ref my, .ref mz, .int (bI true), .int (if kn = true then sk else -1), .int (bI (kn && mr)), .int (nI u1), .int (nI u2), .ref mv, .int (nI (sd_pos d v)), .int (nI d), .ref mt])), (my, .inl (cI, 24, .inl (fun jq => nI (Y jq)))), (mz, .inl (cI, 24, .inl (fun jq => nI (Z jq)))), (mv, .inl (cZ, 2048, .inl (fun jq => bI ((sd_wn n a (fun w => sd_br Y Z q w == 0)) jq)))), (mt, .inl (cI, 10, .inl T))] (va_A [(om, .inr (2, [.int (nI n), .int (nI a), .int (nI q), .ref my, .ref mz, .int (bI kn), .int sk, .int (bI mr), .int (nI u1), .int (nI u2), .ref mv, .int (nI (sd_pos d v)), .int (nI d), .ref mt])), (my, .inl (cI, 24, .inl (fun jq => nI (Y jq)))), (mz, .inl (cI, 24, .inl (fun jq => nI (Z jq)))), (mv, .inl (cZ, 2048, .inl (fun jq => bI (wn jq)))), (mt, .inl (cI, 10, .inl T))] sz)) 0 0 (va_A [(om, .inr (2, [.int (nI n), .int (nI a), .int (nI q), .ref my, .ref mz, .int (bI kn), .int sk, .int (bI mr), .int (nI u1), .int (nI u2), .ref mv, .int (nI (sd_pos d v)), .int (nI d), .ref mt])), (my, .inl (cI, 24, .inl (fun jq => nI (Y jq)))), (mz, .inl (cI, 24, .inl (fun jq => nI (Z jq)))), (mv, .inl (cZ, 2048, .inl (fun jq => bI (wn jq)))), (mt, .inl (cI, 10, .inl T))] sz) := by
  obtain ⟨hn1, hn, ha, h5, hq, hY, hZ, hd, hv⟩ := id ok
  have h2n := hw_p10 hn
  refine Met.ofW (cc := cX2_best) (maxL := 1) (ret := (some .int)) (by decide) rfl ?_
  intro p e s m args below meth c s₁ Bo hml hpre
  obtain ⟨rfl, hsz, hP, hK, hN, hD0⟩ := hpre
  subst hsz
  have hD := hD0.self (sz := s.heap.size)
  generalize hAe : va_A [(om, .inr (2, [.int (nI n), .int (nI a), .int (nI q), .ref my, .ref mz, .int (bI kn), .int sk, .int (bI mr), .int (nI u1), .int (nI u2), .ref mv, .int (nI (sd_pos d v)), .int (nI d), .ref mt])), (my, .inl (cI, 24, .inl (fun jq => nI (Y jq)))), (mz, .inl (cI, 24, .inl (fun jq => nI (Z jq)))), (mv, .inl (cZ, 2048, .inl (fun jq => bI (wn jq)))), (mt, .inl (cI, 10, .inl T))] s.heap.size = A at hD ⊢
  have hA : ∀ q : Nat, s.heap.size ≤ q → A q := fun q h => by rw [← hAe]; exact Or.inr h
  have hS : va_S A s.heap s.heap [] := va_S.rf
  have hx := Bo.exec
  have hb := Bo.bytes
  have hr := Bo.returns
  have hts := atoms_spec (ws := kX2_best :: aW) Bo.pre
  have ht : ∀ w ∈ aW, w.before _ s = true := fun w h => hts w (List.mem_cons_of_mem _ h)
  have hown : s.vm.findClass RX2 = some m.cls := findClass_of_methodNamed Bo.named
  have hlocks := Bo.notSynchronized
  have hP : va_P D clS [(om, .inr (2, [.int (nI n), .int (nI a), .int (nI q), .ref my, .ref mz, .int (bI kn), .int sk, .int (bI mr), .int (nI u1), .int (nI u2), .ref mv, .int (nI (sd_pos d v)), .int (nI d), .ref mt])), (my, .inl (cI, 24, .inl (fun jq => nI (Y jq)))), (mz, .inl (cI, 24, .inl (fun jq => nI (Z jq)))), (mv, .inl (cZ, 2048, .inl (fun jq => bI (wn jq)))), (mt, .inl (cI, 10, .inl T))] s.heap := hP
  have hl := lv_entry ([.ref om]) (n := 1) (Nat.le_of_ble_eq_true rfl)
  rw [lg_entry_eq]
  generalize (lg_sl ([.ref om]) ++ List.replicate (1 - (lg_sl ([.ref om])).length) Slot.unset).toArray = ls at hl ⊢
  have hl : lv_has ls 1 [(0, .ref om)] := hl
  refine lv_aload_n hx hb dX2_best_0 rfl (lv_at hl 0 rfl) ?_
  refine hw_callW (ws' := [(om, .inr (2, [.int (nI n), .int (nI a), .int (nI q), .ref my, .ref mz, .int (bI true), .int (if kn = true then sk else -1), .int (bI (kn && mr)), .int (nI u1), .int (nI u2), .ref mv, .int (nI (sd_pos d v)), .int (nI d), .ref mt])), (my, .inl (cI, 24, .inl (fun jq => nI (Y jq)))), (mz, .inl (cI, 24, .inl (fun jq => nI (Z jq)))), (mv, .inl (cZ, 2048, .inl (fun jq => bI ((sd_wn n a (fun w => sd_br Y Z q w == 0)) jq)))), (mt, .inl (cI, 10, .inl T))]) (va_runV (b := om) (As := []) (rest := []) ⟨hx, hb, hml, hown, ht⟩ (m_look l D cI cZ om my mz mv mt n a q d v u1 u2 kn mr sk Y Z T wn ok s.heap.size mk hu1 hu2) (cwV 0 ht (gV wm_X2_X2_look wi_X2_look ws_X2_look wn_X2 wc_X2_look) rfl rfl rfl (by decide +kernel) ⟨Nat.le_of_ble_eq_true rfl, Nat.le_of_ble_eq_true rfl⟩) (wPre_V 0 hP hD hK hN rfl rfl) rfl rfl hl.1 rfl (lv_room (Nat.le_of_ble_eq_true rfl)) dX2_best_1 ⟨Nat.zero_le _, Nat.zero_le _⟩) hD hS hA rfl (fun H locs hP hD hS => ?_)
  have hP : va_P D clS [(om, .inr (2, [.int (nI n), .int (nI a), .int (nI q), .ref my, .ref mz, .int (bI true), .int (if kn = true then sk else -1), .int (bI (kn && mr)), .int (nI u1), .int (nI u2), .ref mv, .int (nI (sd_pos d v)), .int (nI d), .ref mt])), (my, .inl (cI, 24, .inl (fun jq => nI (Y jq)))), (mz, .inl (cI, 24, .inl (fun jq => nI (Z jq)))), (mv, .inl (cZ, 2048, .inl (fun jq => bI ((sd_wn n a (fun w => sd_br Y Z q w == 0)) jq)))), (mt, .inl (cI, 10, .inl T))] H := hP
  have hD : va_D A [(om, .inr (2, [.int (nI n), .int (nI a), .int (nI q), .ref my, .ref mz, .int (bI true), .int (if kn = true then sk else -1), .int (bI (kn && mr)), .int (nI u1), .int (nI u2), .ref mv, .int (nI (sd_pos d v)), .int (nI d), .ref mt])), (my, .inl (cI, 24, .inl (fun jq => nI (Y jq)))), (mz, .inl (cI, 24, .inl (fun jq => nI (Z jq)))), (mv, .inl (cZ, 2048, .inl (fun jq => bI ((sd_wn n a (fun w => sd_br Y Z q w == 0)) jq)))), (mt, .inl (cI, 10, .inl T))] := hD
  refine W.eq (g2 := F0 m 4 ls []) rfl ?_
  refine lv_aload_n hx hb dX2_best_4 rfl (lv_at hl 0 rfl) ?_
  refine va_get (D := D) (ci := 2) (v := .int (nI d)) (C := RX2) (T := TX2) (N := 14) hx hb ht inX2 hown hK hP 0 rfl rfl 12 (by decide) (ht _ wf_X2_set) (fun _ h9 => h9) rfl dX2_best_5 ?_
  refine lv_aload_n hx hb dX2_best_8 rfl (lv_at hl 0 rfl) ?_
  refine va_get (D := D) (ci := 2) (v := .int (nI n)) (C := RX2) (T := TX2) (N := 14) hx hb ht inX2 hown hK hP 0 rfl rfl 0 (by decide) (ht _ wf_X2_n) (fun _ h9 => h9) rfl dX2_best_9 ?_
  refine lv_icmp_ne (tgt := 19) hx hb dX2_best_12 rfl (fun h1 => ?_) (fun h1 => ?_)
  · have h1 : ¬ (d = n) := fun h9 => h1 ((nI_eq (by omega) (by omega)).mpr h9)
    refine lv_aload_n hx hb dX2_best_19 rfl (lv_at hl 0 rfl) ?_
    refine lv_aload_n hx hb dX2_best_20 rfl (lv_at hl 0 rfl) ?_
    refine va_get (D := D) (ci := 2) (v := .int (nI (sd_pos d v))) (C := RX2) (T := TX2) (N := 14) hx hb ht inX2 hown hK hP 0 rfl rfl 11 (by decide) (ht _ wf_X2_position) (fun _ h9 => h9) rfl dX2_best_21 ?_
    refine lv_aload_n hx hb dX2_best_24 rfl (lv_at hl 0 rfl) ?_
    refine va_get (D := D) (ci := 2) (v := .int (nI d)) (C := RX2) (T := TX2) (N := 14) hx hb ht inX2 hown hK hP 0 rfl rfl 12 (by decide) (ht _ wf_X2_set) (fun _ h9 => h9) rfl dX2_best_25 ?_
    refine hw_callR (va_runV (b := om) (As := [.int (nI (sd_pos d v)), .int (nI d)]) (rest := []) ⟨hx, hb, hml, hown, ht⟩ (m_move l D cI cZ om my mz mv mt n a q d v u1 u2 true (kn && mr) (if kn = true then sk else -1) Y Z T (sd_wn n a (fun w => sd_br Y Z q w == 0)) ok d v (by omega) hv) (cwV 2 ht (gV wm_X2_X2_move wi_X2_move ws_X2_move wn_X2 wc_X2_move) rfl rfl rfl (by decide +kernel) ⟨Nat.le_of_ble_eq_true rfl, Nat.le_of_ble_eq_true rfl⟩) (rPre_V 0 hP hK hN rfl rfl) rfl rfl hl.1 rfl (lv_room (Nat.le_of_ble_eq_true rfl)) dX2_best_28 ⟨Nat.zero_le _, Nat.zero_le _⟩) ?_
    exact W.iret hx hb hr (fun t ht2 _ => ⟨hw_ret ((if_pos (by omega)).symm), by rw [ht2]; exact hP, hS.F ht2⟩) hS.2.2 dX2_best_31
  · have h1 : d = n := (nI_eq (by omega) (by omega)).mp h1
    refine lv_iconst (v := (-1)) hx hb dX2_best_15 (by decide) ?_
    refine lv_goto (tgt := 31) hx hb dX2_best_16 rfl ?_
    exact W.iret hx hb hr (fun t ht2 _ => ⟨hw_ret ((if_neg (by omega)).symm), by rw [ht2]; exact hP, hS.F ht2⟩) hS.2.2 dX2_best_31

set_option maxHeartbeats 4000000 in
set_option maxRecDepth 100000 in
theorem m_led_no (l : Launch) (D : va_G) (cI cZ : ClassId) (om my mz mv mt n a q d v u1 u2 : Nat) (kn mr : Bool) (sk : Int32) (Y Z : Nat → Nat) (T : Nat → Int32) (wn : Nat → Bool) (ok : dOk n a q d v Y Z) (x td : Int32) (ab : Bool) (hno : ¬ uN x < n) : Met l yX2_led (kX2_led :: aW) { frames := 4, cells := 0, slots := 0, locals := 87 } (rPre [.ref om, .int x, .int (bI ab), .int td] D [(om, .inr (2, [.int (nI n), .int (nI a), .int (nI q), .ref my, .ref mz, .int (bI kn), .int sk, .int (bI mr), .int (nI u1), .int (nI u2), .ref mv, .int (nI (sd_pos d v)), .int (nI d), .ref mt])), (my, .inl (cI, 24, .inl (fun jq => nI (Y jq)))), (mz, .inl (cI, 24, .inl (fun jq => nI (Z jq)))), (mv, .inl (cZ, 2048, .inl (fun jq => bI (wn jq)))), (mt, .inl (cI, 10, .inl T))] [(cI, .int), (cZ, .boolean)]) (QcRead (-1)) 0 0 (fun _ => False) := by
  obtain ⟨hn1, hn, ha, h5, hq, hY, hZ, hd, hv⟩ := id ok
  have h2n := hw_p10 hn
  refine Met.ofW (cc := cX2_led) (maxL := 7) (ret := (some .int)) (by decide) rfl ?_
  intro p e s m args below meth c s₁ Bo hml hpre
  obtain ⟨rfl, hP, hK, hN⟩ := hpre
  have hx := Bo.exec
  have hb := Bo.bytes
  have hr := Bo.returns
  have hts := atoms_spec (ws := kX2_led :: aW) Bo.pre
  have ht : ∀ w ∈ aW, w.before _ s = true := fun w h => hts w (List.mem_cons_of_mem _ h)
  have hown : s.vm.findClass RX2 = some m.cls := findClass_of_methodNamed Bo.named
  have hlocks := Bo.notSynchronized
  have hP : va_P D clS [(om, .inr (2, [.int (nI n), .int (nI a), .int (nI q), .ref my, .ref mz, .int (bI kn), .int sk, .int (bI mr), .int (nI u1), .int (nI u2), .ref mv, .int (nI (sd_pos d v)), .int (nI d), .ref mt])), (my, .inl (cI, 24, .inl (fun jq => nI (Y jq)))), (mz, .inl (cI, 24, .inl (fun jq => nI (Z jq)))), (mv, .inl (cZ, 2048, .inl (fun jq => bI (wn jq)))), (mt, .inl (cI, 10, .inl T))] s.heap := hP
  have hl := lv_entry ([.ref om, .int x, .int (bI ab), .int td]) (n := 7) (Nat.le_of_ble_eq_true rfl)
  rw [lg_entry_eq]
  generalize (lg_sl ([.ref om, .int x, .int (bI ab), .int td]) ++ List.replicate (7 - (lg_sl ([.ref om, .int x, .int (bI ab), .int td])).length) Slot.unset).toArray = ls at hl ⊢
  have hl : lv_has ls 7 [(0, .ref om), (1, .int x), (2, .int (bI ab)), (3, .int td)] := hl
  refine lv_iload_n hx hb dX2_led_0 rfl (lv_at hl 1 rfl) ?_
  refine lv_if_lt (tgt := 12) hx hb dX2_led_1 rfl (fun h1 => ?_) (fun h1 => ?_)
  · refine lv_iconst (v := (-1)) hx hb dX2_led_12 (by decide) ?_
    exact W.iret hx hb hr (fun t ht2 _ => ⟨hw_ret (rfl), ht2⟩) (fun _ h => by cases h) dX2_led_13
  · refine lv_iload_n hx hb dX2_led_4 rfl (lv_at hl 1 rfl) ?_
    refine lv_aload_n hx hb dX2_led_5 rfl (lv_at hl 0 rfl) ?_
    refine va_get (D := D) (ci := 2) (v := .int (nI n)) (C := RX2) (T := TX2) (N := 14) hx hb ht inX2 hown hK hP 0 rfl rfl 0 (by decide) (ht _ wf_X2_n) (fun _ h9 => h9) rfl dX2_led_6 ?_
    refine lv_icmp_lt (tgt := 14) hx hb dX2_led_9 rfl (fun h2 => ?_) (fun h2 => ?_)
    · exact absurd (hw_in' (by omega) h1 h2) hno
    · refine lv_iconst (v := (-1)) hx hb dX2_led_12 (by decide) ?_
      exact W.iret hx hb hr (fun t ht2 _ => ⟨hw_ret (rfl), ht2⟩) (fun _ h => by cases h) dX2_led_13

set_option maxHeartbeats 4000000 in
set_option maxRecDepth 100000 in
theorem m_led (l : Launch) (D : va_G) (cI cZ : ClassId) (om my mz mv mt n a q d v u1 u2 : Nat) (kn mr : Bool) (sk : Int32) (Y Z : Nat → Nat) (T : Nat → Int32) (wn : Nat → Bool) (ok : dOk n a q d v Y Z) (sz : Nat) (mk : mOk n kn wn (sd_wn n a (fun w => sd_br Y Z q w == 0))) (hu1 : u1 < 2 ^ n) (hu2 : u2 < 2 ^ n) (j : Nat) (ab : Bool) (td : Int32) (hj : j < n) : Met l yX2_led (kX2_led :: aW) { frames := 4, cells := 0, slots := 0, locals := 87 } (wPre [.ref om, .int (nI j), .int (bI ab), .int td] D [(om, .inr (2, [.int (nI n), .int (nI a), .int (nI q), .ref my, .ref mz, .int (bI kn), .int sk, .int (bI mr), .int (nI u1), .int (nI u2), .ref mv, .int (nI (sd_pos d v)), .int (nI d), .ref mt])), (my, .inl (cI, 24, .inl (fun jq => nI (Y jq)))), (mz, .inl (cI, 24, .inl (fun jq => nI (Z jq)))), (mv, .inl (cZ, 2048, .inl (fun jq => bI (wn jq)))), (mt, .inl (cI, 10, .inl T))] [(cI, .int), (cZ, .boolean)] sz) (wQ (some (.int (bI (sd_ld n a (fun w => sd_br Y Z q w == 0) ab (uN td) j (sd_ac (sd_ld n a (fun w => sd_br Y Z q w == 0) ab (uN td)) j))))) D [(om, .inr (2, [.int (nI n), .int (nI a), .int (nI q), .ref my, .ref mz, .int (bI true), .int (if kn = true then sk else -1), .int (bI (kn && mr)), .int (nI u1), .int (nI u2), .ref mv, .int (nI (sd_pos d v)), .int (nI d), .ref mt])), (my, .inl (cI, 24, .inl (fun jq => nI (Y jq)))), (mz, .inl (cI, 24, .inl (fun jq => nI (Z jq)))), (mv, .inl (cZ, 2048, .inl (fun jq => bI ((sd_wn n a (fun w => sd_br Y Z q w == 0)) jq)))), (mt, .inl (cI, 10, .inl T))] (va_A [(om, .inr (2, [.int (nI n), .int (nI a), .int (nI q), .ref my, .ref mz, .int (bI kn), .int sk, .int (bI mr), .int (nI u1), .int (nI u2), .ref mv, .int (nI (sd_pos d v)), .int (nI d), .ref mt])), (my, .inl (cI, 24, .inl (fun jq => nI (Y jq)))), (mz, .inl (cI, 24, .inl (fun jq => nI (Z jq)))), (mv, .inl (cZ, 2048, .inl (fun jq => bI (wn jq)))), (mt, .inl (cI, 10, .inl T))] sz)) 0 0 (va_A [(om, .inr (2, [.int (nI n), .int (nI a), .int (nI q), .ref my, .ref mz, .int (bI kn), .int sk, .int (bI mr), .int (nI u1), .int (nI u2), .ref mv, .int (nI (sd_pos d v)), .int (nI d), .ref mt])), (my, .inl (cI, 24, .inl (fun jq => nI (Y jq)))), (mz, .inl (cI, 24, .inl (fun jq => nI (Z jq)))), (mv, .inl (cZ, 2048, .inl (fun jq => bI (wn jq)))), (mt, .inl (cI, 10, .inl T))] sz) := by
  obtain ⟨hn1, hn, ha, h5, hq, hY, hZ, hd, hv⟩ := id ok
  have h2n := hw_p10 hn
  refine Met.ofW (cc := cX2_led) (maxL := 7) (ret := (some .int)) (by decide) rfl ?_
  intro p e s m args below meth c s₁ Bo hml hpre
  obtain ⟨rfl, hsz, hP, hK, hN, hD0⟩ := hpre
  subst hsz
  have hD := hD0.self (sz := s.heap.size)
  generalize hAe : va_A [(om, .inr (2, [.int (nI n), .int (nI a), .int (nI q), .ref my, .ref mz, .int (bI kn), .int sk, .int (bI mr), .int (nI u1), .int (nI u2), .ref mv, .int (nI (sd_pos d v)), .int (nI d), .ref mt])), (my, .inl (cI, 24, .inl (fun jq => nI (Y jq)))), (mz, .inl (cI, 24, .inl (fun jq => nI (Z jq)))), (mv, .inl (cZ, 2048, .inl (fun jq => bI (wn jq)))), (mt, .inl (cI, 10, .inl T))] s.heap.size = A at hD ⊢
  have hA : ∀ q : Nat, s.heap.size ≤ q → A q := fun q h => by rw [← hAe]; exact Or.inr h
  have hS : va_S A s.heap s.heap [] := va_S.rf
  have hx := Bo.exec
  have hb := Bo.bytes
  have hr := Bo.returns
  have hts := atoms_spec (ws := kX2_led :: aW) Bo.pre
  have ht : ∀ w ∈ aW, w.before _ s = true := fun w h => hts w (List.mem_cons_of_mem _ h)
  have hown : s.vm.findClass RX2 = some m.cls := findClass_of_methodNamed Bo.named
  have hlocks := Bo.notSynchronized
  have hP : va_P D clS [(om, .inr (2, [.int (nI n), .int (nI a), .int (nI q), .ref my, .ref mz, .int (bI kn), .int sk, .int (bI mr), .int (nI u1), .int (nI u2), .ref mv, .int (nI (sd_pos d v)), .int (nI d), .ref mt])), (my, .inl (cI, 24, .inl (fun jq => nI (Y jq)))), (mz, .inl (cI, 24, .inl (fun jq => nI (Z jq)))), (mv, .inl (cZ, 2048, .inl (fun jq => bI (wn jq)))), (mt, .inl (cI, 10, .inl T))] s.heap := hP
  have hl := lv_entry ([.ref om, .int (nI j), .int (bI ab), .int td]) (n := 7) (Nat.le_of_ble_eq_true rfl)
  rw [lg_entry_eq]
  generalize (lg_sl ([.ref om, .int (nI j), .int (bI ab), .int td]) ++ List.replicate (7 - (lg_sl ([.ref om, .int (nI j), .int (bI ab), .int td])).length) Slot.unset).toArray = ls at hl ⊢
  have hl : lv_has ls 7 [(0, .ref om), (1, .int (nI j)), (2, .int (bI ab)), (3, .int td)] := hl
  refine lv_iload_n hx hb dX2_led_0 rfl (lv_at hl 1 rfl) ?_
  refine lv_if_lt (tgt := 12) hx hb dX2_led_1 rfl (fun hc => absurd (nI_pos (by omega) hc) id) (fun _ => ?_)
  refine lv_iload_n hx hb dX2_led_4 rfl (lv_at hl 1 rfl) ?_
  refine lv_aload_n hx hb dX2_led_5 rfl (lv_at hl 0 rfl) ?_
  refine va_get (D := D) (ci := 2) (v := .int (nI n)) (C := RX2) (T := TX2) (N := 14) hx hb ht inX2 hown hK hP 0 rfl rfl 0 (by decide) (ht _ wf_X2_n) (fun _ h9 => h9) rfl dX2_led_6 ?_
  refine lv_icmp_lt (tgt := 14) hx hb dX2_led_9 rfl (fun _ => ?_) (fun hc => absurd (show ¬ (j < n) from fun h9 => hc ((nI_ltI (by omega) (by omega)).mpr h9)) (by omega))
  refine lv_aload_n hx hb dX2_led_14 rfl (lv_at hl 0 rfl) ?_
  refine hw_callW (ws' := [(om, .inr (2, [.int (nI n), .int (nI a), .int (nI q), .ref my, .ref mz, .int (bI true), .int (if kn = true then sk else -1), .int (bI (kn && mr)), .int (nI u1), .int (nI u2), .ref mv, .int (nI (sd_pos d v)), .int (nI d), .ref mt])), (my, .inl (cI, 24, .inl (fun jq => nI (Y jq)))), (mz, .inl (cI, 24, .inl (fun jq => nI (Z jq)))), (mv, .inl (cZ, 2048, .inl (fun jq => bI ((sd_wn n a (fun w => sd_br Y Z q w == 0)) jq)))), (mt, .inl (cI, 10, .inl T))]) (va_runV (b := om) (As := []) (rest := []) ⟨hx, hb, hml, hown, ht⟩ (m_look l D cI cZ om my mz mv mt n a q d v u1 u2 kn mr sk Y Z T wn ok s.heap.size mk hu1 hu2) (cwV 0 ht (gV wm_X2_X2_look wi_X2_look ws_X2_look wn_X2 wc_X2_look) rfl rfl rfl (by decide +kernel) ⟨Nat.le_of_ble_eq_true rfl, Nat.le_of_ble_eq_true rfl⟩) (wPre_V 0 hP hD hK hN rfl rfl) rfl rfl hl.1 rfl (lv_room (Nat.le_of_ble_eq_true rfl)) dX2_led_15 ⟨Nat.zero_le _, Nat.zero_le _⟩) hD hS hA rfl (fun H locs hP hD hS => ?_)
  have hP : va_P D clS [(om, .inr (2, [.int (nI n), .int (nI a), .int (nI q), .ref my, .ref mz, .int (bI true), .int (if kn = true then sk else -1), .int (bI (kn && mr)), .int (nI u1), .int (nI u2), .ref mv, .int (nI (sd_pos d v)), .int (nI d), .ref mt])), (my, .inl (cI, 24, .inl (fun jq => nI (Y jq)))), (mz, .inl (cI, 24, .inl (fun jq => nI (Z jq)))), (mv, .inl (cZ, 2048, .inl (fun jq => bI ((sd_wn n a (fun w => sd_br Y Z q w == 0)) jq)))), (mt, .inl (cI, 10, .inl T))] H := hP
  have hD : va_D A [(om, .inr (2, [.int (nI n), .int (nI a), .int (nI q), .ref my, .ref mz, .int (bI true), .int (if kn = true then sk else -1), .int (bI (kn && mr)), .int (nI u1), .int (nI u2), .ref mv, .int (nI (sd_pos d v)), .int (nI d), .ref mt])), (my, .inl (cI, 24, .inl (fun jq => nI (Y jq)))), (mz, .inl (cI, 24, .inl (fun jq => nI (Z jq)))), (mv, .inl (cZ, 2048, .inl (fun jq => bI ((sd_wn n a (fun w => sd_br Y Z q w == 0)) jq)))), (mt, .inl (cI, 10, .inl T))] := hD
  refine W.eq (g2 := F0 m 18 ls []) rfl ?_
  refine lv_iconst (v := nI 1) hx hb dX2_led_18 (by decide) ?_
  refine lv_istore hx hb dX2_led_19 hl (by decide) rfl (fun ls hl => ?_)
  have hl : lv_has ls 7 [(4, .int (nI 1)), (0, .ref om), (1, .int (nI j)), (2, .int (bI ab)), (3, .int td)] := hl
  refine lv_iconst (v := nI 0) hx hb dX2_led_21 (by decide) ?_
  refine lv_istore hx hb dX2_led_22 hl (by decide) rfl (fun ls hl => ?_)
  have hl : lv_has ls 7 [(5, .int (nI 0)), (4, .int (nI 1)), (0, .ref om), (1, .int (nI j)), (2, .int (bI ab)), (3, .int td)] := hl
  refine lv_iconst (v := nI 0) hx hb dX2_led_24 (by decide) ?_
  refine lv_istore hx hb dX2_led_25 hl (by decide) rfl (fun ls hl => ?_)
  have hl : lv_has ls 7 [(6, .int (nI 0)), (5, .int (nI 0)), (4, .int (nI 1)), (0, .ref om), (1, .int (nI j)), (2, .int (bI ab)), (3, .int td)] := hl
  have hl : lv_has ls 7 [(0, .ref om), (1, .int (nI j)), (2, .int (bI ab)), (3, .int td), (4, .int (nI 1)), (5, .int (nI 0)), (6, .int (nI 0))] := lv_sub hl [3, 4, 5, 6, 2, 1, 0] rfl
  suffices lp : ∀ k : Nat, ∀ (i : Nat) (vb : Bool) (ls : Array Slot) (H : Heap) (locs : List Loc), (i + k = j + 1) → (i = j + 1 → vb = sd_ld n a (fun w => sd_br Y Z q w == 0) ab (uN td) j (sd_ac (sd_ld n a (fun w => sd_br Y Z q w == 0) ab (uN td)) j)) → lv_has ls 7 [(0, .ref om), (1, .int (nI j)), (2, .int (bI ab)), (3, .int td), (4, .int (nI (sd_pos i (sd_ac (sd_ld n a (fun w => sd_br Y Z q w == 0) ab (uN td)) i)))), (5, .int (bI vb)), (6, .int (nI i))] → va_P D clS [(om, .inr (2, [.int (nI n), .int (nI a), .int (nI q), .ref my, .ref mz, .int (bI true), .int (if kn = true then sk else -1), .int (bI (kn && mr)), .int (nI u1), .int (nI u2), .ref mv, .int (nI (sd_pos d v)), .int (nI d), .ref mt])), (my, .inl (cI, 24, .inl (fun jq => nI (Y jq)))), (mz, .inl (cI, 24, .inl (fun jq => nI (Z jq)))), (mv, .inl (cZ, 2048, .inl (fun jq => bI ((sd_wn n a (fun w => sd_br Y Z q w == 0)) jq)))), (mt, .inl (cI, 10, .inl T))] H → va_S A s.heap H locs → W p l e (headSpec (kX2_led :: aW) { frames := 4, cells := 0, slots := 0, locals := 87 }).room s m (([.ref om, .int (nI j), .int (bI ab), .int td] : List Value).toArray) below meth c H locs 0 0 (MQ below (wQ (some (.int (bI (sd_ld n a (fun w => sd_br Y Z q w == 0) ab (uN td) j (sd_ac (sd_ld n a (fun w => sd_br Y Z q w == 0) ab (uN td)) j))))) D [(om, .inr (2, [.int (nI n), .int (nI a), .int (nI q), .ref my, .ref mz, .int (bI true), .int (if kn = true then sk else -1), .int (bI (kn && mr)), .int (nI u1), .int (nI u2), .ref mv, .int (nI (sd_pos d v)), .int (nI d), .ref mt])), (my, .inl (cI, 24, .inl (fun jq => nI (Y jq)))), (mz, .inl (cI, 24, .inl (fun jq => nI (Z jq)))), (mv, .inl (cZ, 2048, .inl (fun jq => bI ((sd_wn n a (fun w => sd_br Y Z q w == 0)) jq)))), (mt, .inl (cI, 10, .inl T))] A) (([.ref om, .int (nI j), .int (bI ab), .int td] : List Value).toArray) s 0 0 A) (F0 m 27 ls []) by
    exact lp (j + 1) 0 false ls H locs (by omega) (fun h9 => by omega) hl hP hS
  intro k
  induction k with
  | zero =>
    intro i vb ls H locs hi hb9 hl hP hS
    have hD : va_D A [(om, .inr (2, [.int (nI n), .int (nI a), .int (nI q), .ref my, .ref mz, .int (bI true), .int (if kn = true then sk else -1), .int (bI (kn && mr)), .int (nI u1), .int (nI u2), .ref mv, .int (nI (sd_pos d v)), .int (nI d), .ref mt])), (my, .inl (cI, 24, .inl (fun jq => nI (Y jq)))), (mz, .inl (cI, 24, .inl (fun jq => nI (Z jq)))), (mv, .inl (cZ, 2048, .inl (fun jq => bI ((sd_wn n a (fun w => sd_br Y Z q w == 0)) jq)))), (mt, .inl (cI, 10, .inl T))] := hw_ad hD rfl
    refine lv_iload hx hb dX2_led_27 (lv_at hl 6 rfl) ?_
    refine lv_iload_n hx hb dX2_led_29 rfl (lv_at hl 1 rfl) ?_
    refine lv_icmp_gt (tgt := 77) hx hb dX2_led_30 rfl (fun _ => ?_) (fun hc => absurd (show ¬ (j < i) from fun h9 => hc ((nI_ltI (by omega) (by omega)).mpr h9)) (by omega))
    refine lv_iload hx hb dX2_led_77 (lv_at hl 5 rfl) ?_
    exact W.iret hx hb hr (fun t ht2 _ => ⟨hw_ret (congrArg bI (hb9 (by omega))), by rw [ht2]; exact hP, hS.F ht2⟩) hS.2.2 dX2_led_79
  | succ k ih =>
    intro i vb ls H locs hi hb9 hl hP hS
    have hD : va_D A [(om, .inr (2, [.int (nI n), .int (nI a), .int (nI q), .ref my, .ref mz, .int (bI true), .int (if kn = true then sk else -1), .int (bI (kn && mr)), .int (nI u1), .int (nI u2), .ref mv, .int (nI (sd_pos d v)), .int (nI d), .ref mt])), (my, .inl (cI, 24, .inl (fun jq => nI (Y jq)))), (mz, .inl (cI, 24, .inl (fun jq => nI (Z jq)))), (mv, .inl (cZ, 2048, .inl (fun jq => bI ((sd_wn n a (fun w => sd_br Y Z q w == 0)) jq)))), (mt, .inl (cI, 10, .inl T))] := hw_ad hD rfl
    have hac := sd_ac_lt (sd_ld n a (fun w => sd_br Y Z q w == 0) ab (uN td)) i
    refine lv_iload hx hb dX2_led_27 (lv_at hl 6 rfl) ?_
    refine lv_iload_n hx hb dX2_led_29 rfl (lv_at hl 1 rfl) ?_
    refine lv_icmp_gt (tgt := 77) hx hb dX2_led_30 rfl (fun hc => absurd (show j < i from (nI_ltI (by omega) (by omega)).mp hc) (by omega)) (fun _ => ?_)
    refine lv_aload_n hx hb dX2_led_33 rfl (lv_at hl 0 rfl) ?_
    refine lv_iload hx hb dX2_led_34 (lv_at hl 6 rfl) ?_
    refine hw_callR (va_runV (b := om) (As := [.int (nI i)]) (rest := []) ⟨hx, hb, hml, hown, ht⟩ (m_isAdams l D cI cZ om my mz mv mt n a q d v u1 u2 true (kn && mr) (if kn = true then sk else -1) Y Z T (sd_wn n a (fun w => sd_br Y Z q w == 0)) ok i (by omega)) (cwV 1 ht (gV wm_X2_X2_isAdams wi_X2_isAdams ws_X2_isAdams wn_X2 wc_X2_isAdams) rfl rfl rfl (by decide +kernel) ⟨Nat.le_of_ble_eq_true rfl, Nat.le_of_ble_eq_true rfl⟩) (rPre_V 0 hP hK hN rfl rfl) rfl rfl hl.1 rfl (lv_room (Nat.le_of_ble_eq_true rfl)) dX2_led_36 ⟨Nat.zero_le _, Nat.zero_le _⟩) ?_
    refine lv_iload_n hx hb dX2_led_39 rfl (lv_at hl 2 rfl) ?_
    suffices mk9 : W p l e (headSpec (kX2_led :: aW) { frames := 4, cells := 0, slots := 0, locals := 87 }).room s m (([.ref om, .int (nI j), .int (bI ab), .int td] : List Value).toArray) below meth c H locs 0 0 (MQ below (wQ (some (.int (bI (sd_ld n a (fun w => sd_br Y Z q w == 0) ab (uN td) j (sd_ac (sd_ld n a (fun w => sd_br Y Z q w == 0) ab (uN td)) j))))) D [(om, .inr (2, [.int (nI n), .int (nI a), .int (nI q), .ref my, .ref mz, .int (bI true), .int (if kn = true then sk else -1), .int (bI (kn && mr)), .int (nI u1), .int (nI u2), .ref mv, .int (nI (sd_pos d v)), .int (nI d), .ref mt])), (my, .inl (cI, 24, .inl (fun jq => nI (Y jq)))), (mz, .inl (cI, 24, .inl (fun jq => nI (Z jq)))), (mv, .inl (cZ, 2048, .inl (fun jq => bI ((sd_wn n a (fun w => sd_br Y Z q w == 0)) jq)))), (mt, .inl (cI, 10, .inl T))] A) (([.ref om, .int (nI j), .int (bI ab), .int td] : List Value).toArray) s 0 0 A) (F0 m 60 ls [.int (bI (sd_ld n a (fun w => sd_br Y Z q w == 0) ab (uN td) i (sd_ac (sd_ld n a (fun w => sd_br Y Z q w == 0) ab (uN td)) i)))]) by
      refine lv_icmp_ne (tgt := 54) hx hb dX2_led_40 rfl (fun h1 => ?_) (fun h1 => ?_)
      · have h1 : ¬ (a.testBit i) = ab := fun h9 => h1 ((bI_inj _ _).mpr h9)
        refine lv_iload_n hx hb dX2_led_54 rfl (lv_at hl 3 rfl) ?_
        refine lv_iload hx hb dX2_led_55 (lv_at hl 6 rfl) ?_
        refine lv_ishr hx hb dX2_led_57 ?_
        refine lv_iconst (v := nI 1) hx hb dX2_led_58 (by decide) ?_
        refine lv_iand hx hb dX2_led_59 ?_
        refine lv_nm (y := bI ((uN td).testBit i)) (hw_sbit _ (by omega)) ?_
        refine lv_nm (y := bI (sd_ld n a (fun w => sd_br Y Z q w == 0) ab (uN td) i (sd_ac (sd_ld n a (fun w => sd_br Y Z q w == 0) ab (uN td)) i))) (congrArg bI (if_neg h1).symm) ?_
        exact mk9
      · have h1 : (a.testBit i) = ab := (bI_inj _ _).mp h1
        refine lv_aload_n hx hb dX2_led_43 rfl (lv_at hl 0 rfl) ?_
        refine lv_iload hx hb dX2_led_44 (lv_at hl 4 rfl) ?_
        refine lv_iload hx hb dX2_led_46 (lv_at hl 6 rfl) ?_
        refine hw_callR (va_runV (b := om) (As := [.int (nI (sd_pos i (sd_ac (sd_ld n a (fun w => sd_br Y Z q w == 0) ab (uN td)) i))), .int (nI i)]) (rest := []) ⟨hx, hb, hml, hown, ht⟩ (m_move l D cI cZ om my mz mv mt n a q d v u1 u2 true (kn && mr) (if kn = true then sk else -1) Y Z T (sd_wn n a (fun w => sd_br Y Z q w == 0)) ok i (sd_ac (sd_ld n a (fun w => sd_br Y Z q w == 0) ab (uN td)) i) (by omega) hac) (cwV 2 ht (gV wm_X2_X2_move wi_X2_move ws_X2_move wn_X2 wc_X2_move) rfl rfl rfl (by decide +kernel) ⟨Nat.le_of_ble_eq_true rfl, Nat.le_of_ble_eq_true rfl⟩) (rPre_V 0 hP hK hN rfl rfl) rfl rfl hl.1 rfl (lv_room (Nat.le_of_ble_eq_true rfl)) dX2_led_48 ⟨Nat.zero_le _, Nat.zero_le _⟩) ?_
        refine lv_nm (y := bI (sd_ld n a (fun w => sd_br Y Z q w == 0) ab (uN td) i (sd_ac (sd_ld n a (fun w => sd_br Y Z q w == 0) ab (uN td)) i))) (congrArg bI (if_pos h1).symm) ?_
        refine lv_goto (tgt := 60) hx hb dX2_led_51 rfl ?_
        exact mk9
    refine lv_istore hx hb dX2_led_60 hl (by decide) rfl (fun ls hl => ?_)
    have hl : lv_has ls 7 [(5, .int (bI (sd_ld n a (fun w => sd_br Y Z q w == 0) ab (uN td) i (sd_ac (sd_ld n a (fun w => sd_br Y Z q w == 0) ab (uN td)) i)))), (0, .ref om), (1, .int (nI j)), (2, .int (bI ab)), (3, .int td), (4, .int (nI (sd_pos i (sd_ac (sd_ld n a (fun w => sd_br Y Z q w == 0) ab (uN td)) i)))), (6, .int (nI i))] := hl
    refine lv_iconst (v := nI 2) hx hb dX2_led_62 (by decide) ?_
    refine lv_iload hx hb dX2_led_63 (lv_at hl 5 rfl) ?_
    refine lv_imul hx hb dX2_led_65 ?_
    refine lv_nm (y := nI (2 * (sd_pos i (sd_ac (sd_ld n a (fun w => sd_br Y Z q w == 0) ab (uN td)) i)))) (pk_mul _ _) ?_
    refine lv_iload hx hb dX2_led_66 (lv_at hl 0 rfl) ?_
    refine lv_iadd hx hb dX2_led_68 ?_
    refine lv_nm (y := nI (sd_pos (i + 1) (sd_ac (sd_ld n a (fun w => sd_br Y Z q w == 0) ab (uN td)) (i + 1)))) (by rw [bI_nI, nI_add, sd_pos_ac]) ?_
    refine lv_istore hx hb dX2_led_69 hl (by decide) rfl (fun ls hl => ?_)
    have hl : lv_has ls 7 [(4, .int (nI (sd_pos (i + 1) (sd_ac (sd_ld n a (fun w => sd_br Y Z q w == 0) ab (uN td)) (i + 1))))), (5, .int (bI (sd_ld n a (fun w => sd_br Y Z q w == 0) ab (uN td) i (sd_ac (sd_ld n a (fun w => sd_br Y Z q w == 0) ab (uN td)) i)))), (0, .ref om), (1, .int (nI j)), (2, .int (bI ab)), (3, .int td), (6, .int (nI i))] := hl
    refine lv_iinc (k := 6) (v := nI (i + 1)) hx hb dX2_led_71 hl rfl (hw_inc _) (by decide) rfl (fun ls hl => ?_)
    have hl : lv_has ls 7 [(6, .int (nI (i + 1))), (4, .int (nI (sd_pos (i + 1) (sd_ac (sd_ld n a (fun w => sd_br Y Z q w == 0) ab (uN td)) (i + 1))))), (5, .int (bI (sd_ld n a (fun w => sd_br Y Z q w == 0) ab (uN td) i (sd_ac (sd_ld n a (fun w => sd_br Y Z q w == 0) ab (uN td)) i)))), (0, .ref om), (1, .int (nI j)), (2, .int (bI ab)), (3, .int td)] := hl
    refine lv_goto (tgt := 27) hx hb dX2_led_74 rfl ?_
    have hl : lv_has ls 7 [(0, .ref om), (1, .int (nI j)), (2, .int (bI ab)), (3, .int td), (4, .int (nI (sd_pos (i + 1) (sd_ac (sd_ld n a (fun w => sd_br Y Z q w == 0) ab (uN td)) (i + 1))))), (5, .int (bI (sd_ld n a (fun w => sd_br Y Z q w == 0) ab (uN td) i (sd_ac (sd_ld n a (fun w => sd_br Y Z q w == 0) ab (uN td)) i)))), (6, .int (nI (i + 1)))] := lv_sub hl [3, 4, 5, 6, 1, 2, 0] rfl
    exact ih (i + 1) (sd_ld n a (fun w => sd_br Y Z q w == 0) ab (uN td) i (sd_ac (sd_ld n a (fun w => sd_br Y Z q w == 0) ab (uN td)) i)) ls H locs (by omega) (fun h9 => by obtain rfl : i = j := (by omega); rfl) hl hP hS

set_option maxHeartbeats 4000000 in
set_option maxRecDepth 100000 in
theorem m_reply_no (l : Launch) (D : va_G) (cI cZ : ClassId) (om my mz mv mt n a q d v u1 u2 : Nat) (kn mr : Bool) (sk : Int32) (Y Z : Nat → Nat) (T : Nat → Int32) (wn : Nat → Bool) (ok : dOk n a q d v Y Z) (x td : Int32) (hno : ¬ uN x < n) : Met l yX2_reply (kX2_reply :: aW) { frames := 5, cells := 0, slots := 0, locals := 113 } (rPre [.ref om, .int x, .int td] D [(om, .inr (2, [.int (nI n), .int (nI a), .int (nI q), .ref my, .ref mz, .int (bI kn), .int sk, .int (bI mr), .int (nI u1), .int (nI u2), .ref mv, .int (nI (sd_pos d v)), .int (nI d), .ref mt])), (my, .inl (cI, 24, .inl (fun jq => nI (Y jq)))), (mz, .inl (cI, 24, .inl (fun jq => nI (Z jq)))), (mv, .inl (cZ, 2048, .inl (fun jq => bI (wn jq)))), (mt, .inl (cI, 10, .inl T))] [(cI, .int), (cZ, .boolean)]) (QcRead (-1)) 0 0 (fun _ => False) := by
  obtain ⟨hn1, hn, ha, h5, hq, hY, hZ, hd, hv⟩ := id ok
  have h2n := hw_p10 hn
  refine Met.ofW (cc := cX2_reply) (maxL := 3) (ret := (some .int)) (by decide) rfl ?_
  intro p e s m args below meth c s₁ Bo hml hpre
  obtain ⟨rfl, hP, hK, hN⟩ := hpre
  have hx := Bo.exec
  have hb := Bo.bytes
  have hr := Bo.returns
  have hts := atoms_spec (ws := kX2_reply :: aW) Bo.pre
  have ht : ∀ w ∈ aW, w.before _ s = true := fun w h => hts w (List.mem_cons_of_mem _ h)
  have hown : s.vm.findClass RX2 = some m.cls := findClass_of_methodNamed Bo.named
  have hlocks := Bo.notSynchronized
  have hP : va_P D clS [(om, .inr (2, [.int (nI n), .int (nI a), .int (nI q), .ref my, .ref mz, .int (bI kn), .int sk, .int (bI mr), .int (nI u1), .int (nI u2), .ref mv, .int (nI (sd_pos d v)), .int (nI d), .ref mt])), (my, .inl (cI, 24, .inl (fun jq => nI (Y jq)))), (mz, .inl (cI, 24, .inl (fun jq => nI (Z jq)))), (mv, .inl (cZ, 2048, .inl (fun jq => bI (wn jq)))), (mt, .inl (cI, 10, .inl T))] s.heap := hP
  have hl := lv_entry ([.ref om, .int x, .int td]) (n := 3) (Nat.le_of_ble_eq_true rfl)
  rw [lg_entry_eq]
  generalize (lg_sl ([.ref om, .int x, .int td]) ++ List.replicate (3 - (lg_sl ([.ref om, .int x, .int td])).length) Slot.unset).toArray = ls at hl ⊢
  have hl : lv_has ls 3 [(0, .ref om), (1, .int x), (2, .int td)] := hl
  refine lv_aload_n hx hb dX2_reply_0 rfl (lv_at hl 0 rfl) ?_
  refine lv_iload_n hx hb dX2_reply_1 rfl (lv_at hl 1 rfl) ?_
  refine lv_iconst (v := nI 0) hx hb dX2_reply_2 (by decide) ?_
  refine lv_nm (y := bI false) (hw_0) ?_
  refine lv_iload_n hx hb dX2_reply_3 rfl (lv_at hl 2 rfl) ?_
  refine hw_callR (va_runV (b := om) (As := [.int x, .int (bI false), .int td]) (rest := []) ⟨hx, hb, hml, hown, ht⟩ (m_led_no l D cI cZ om my mz mv mt n a q d v u1 u2 kn mr sk Y Z T wn ok x td false hno) (cwV 3 ht (gV wm_X2_X2_led wi_X2_led ws_X2_led wn_X2 wc_X2_led) rfl rfl rfl (by decide +kernel) ⟨Nat.le_of_ble_eq_true rfl, Nat.le_of_ble_eq_true rfl⟩) (rPre_V 0 hP hK hN rfl rfl) rfl rfl hl.1 rfl (lv_room (Nat.le_of_ble_eq_true rfl)) dX2_reply_4 ⟨Nat.zero_le _, Nat.zero_le _⟩) ?_
  exact W.iret hx hb hr (fun t ht2 _ => ⟨hw_ret (rfl), ht2⟩) (fun _ h => by cases h) dX2_reply_7

set_option maxHeartbeats 4000000 in
set_option maxRecDepth 100000 in
theorem m_reply (l : Launch) (D : va_G) (cI cZ : ClassId) (om my mz mv mt n a q d v u1 u2 : Nat) (kn mr : Bool) (sk : Int32) (Y Z : Nat → Nat) (T : Nat → Int32) (wn : Nat → Bool) (ok : dOk n a q d v Y Z) (sz : Nat) (mk : mOk n kn wn (sd_wn n a (fun w => sd_br Y Z q w == 0))) (hu1 : u1 < 2 ^ n) (hu2 : u2 < 2 ^ n) (j : Nat) (td : Int32) (hj : j < n) : Met l yX2_reply (kX2_reply :: aW) { frames := 5, cells := 0, slots := 0, locals := 113 } (wPre [.ref om, .int (nI j), .int td] D [(om, .inr (2, [.int (nI n), .int (nI a), .int (nI q), .ref my, .ref mz, .int (bI kn), .int sk, .int (bI mr), .int (nI u1), .int (nI u2), .ref mv, .int (nI (sd_pos d v)), .int (nI d), .ref mt])), (my, .inl (cI, 24, .inl (fun jq => nI (Y jq)))), (mz, .inl (cI, 24, .inl (fun jq => nI (Z jq)))), (mv, .inl (cZ, 2048, .inl (fun jq => bI (wn jq)))), (mt, .inl (cI, 10, .inl T))] [(cI, .int), (cZ, .boolean)] sz) (wQ (some (.int (bI (sd_ld n a (fun w => sd_br Y Z q w == 0) false (uN td) j (sd_ac (sd_ld n a (fun w => sd_br Y Z q w == 0) false (uN td)) j))))) D [(om, .inr (2, [.int (nI n), .int (nI a), .int (nI q), .ref my, .ref mz, .int (bI true), .int (if kn = true then sk else -1), .int (bI (kn && mr)), .int (nI u1), .int (nI u2), .ref mv, .int (nI (sd_pos d v)), .int (nI d), .ref mt])), (my, .inl (cI, 24, .inl (fun jq => nI (Y jq)))), (mz, .inl (cI, 24, .inl (fun jq => nI (Z jq)))), (mv, .inl (cZ, 2048, .inl (fun jq => bI ((sd_wn n a (fun w => sd_br Y Z q w == 0)) jq)))), (mt, .inl (cI, 10, .inl T))] (va_A [(om, .inr (2, [.int (nI n), .int (nI a), .int (nI q), .ref my, .ref mz, .int (bI kn), .int sk, .int (bI mr), .int (nI u1), .int (nI u2), .ref mv, .int (nI (sd_pos d v)), .int (nI d), .ref mt])), (my, .inl (cI, 24, .inl (fun jq => nI (Y jq)))), (mz, .inl (cI, 24, .inl (fun jq => nI (Z jq)))), (mv, .inl (cZ, 2048, .inl (fun jq => bI (wn jq)))), (mt, .inl (cI, 10, .inl T))] sz)) 0 0 (va_A [(om, .inr (2, [.int (nI n), .int (nI a), .int (nI q), .ref my, .ref mz, .int (bI kn), .int sk, .int (bI mr), .int (nI u1), .int (nI u2), .ref mv, .int (nI (sd_pos d v)), .int (nI d), .ref mt])), (my, .inl (cI, 24, .inl (fun jq => nI (Y jq)))), (mz, .inl (cI, 24, .inl (fun jq => nI (Z jq)))), (mv, .inl (cZ, 2048, .inl (fun jq => bI (wn jq)))), (mt, .inl (cI, 10, .inl T))] sz) := by
  obtain ⟨hn1, hn, ha, h5, hq, hY, hZ, hd, hv⟩ := id ok
  have h2n := hw_p10 hn
  refine Met.ofW (cc := cX2_reply) (maxL := 3) (ret := (some .int)) (by decide) rfl ?_
  intro p e s m args below meth c s₁ Bo hml hpre
  obtain ⟨rfl, hsz, hP, hK, hN, hD0⟩ := hpre
  subst hsz
  have hD := hD0.self (sz := s.heap.size)
  generalize hAe : va_A [(om, .inr (2, [.int (nI n), .int (nI a), .int (nI q), .ref my, .ref mz, .int (bI kn), .int sk, .int (bI mr), .int (nI u1), .int (nI u2), .ref mv, .int (nI (sd_pos d v)), .int (nI d), .ref mt])), (my, .inl (cI, 24, .inl (fun jq => nI (Y jq)))), (mz, .inl (cI, 24, .inl (fun jq => nI (Z jq)))), (mv, .inl (cZ, 2048, .inl (fun jq => bI (wn jq)))), (mt, .inl (cI, 10, .inl T))] s.heap.size = A at hD ⊢
  have hA : ∀ q : Nat, s.heap.size ≤ q → A q := fun q h => by rw [← hAe]; exact Or.inr h
  have hS : va_S A s.heap s.heap [] := va_S.rf
  have hx := Bo.exec
  have hb := Bo.bytes
  have hr := Bo.returns
  have hts := atoms_spec (ws := kX2_reply :: aW) Bo.pre
  have ht : ∀ w ∈ aW, w.before _ s = true := fun w h => hts w (List.mem_cons_of_mem _ h)
  have hown : s.vm.findClass RX2 = some m.cls := findClass_of_methodNamed Bo.named
  have hlocks := Bo.notSynchronized
  have hP : va_P D clS [(om, .inr (2, [.int (nI n), .int (nI a), .int (nI q), .ref my, .ref mz, .int (bI kn), .int sk, .int (bI mr), .int (nI u1), .int (nI u2), .ref mv, .int (nI (sd_pos d v)), .int (nI d), .ref mt])), (my, .inl (cI, 24, .inl (fun jq => nI (Y jq)))), (mz, .inl (cI, 24, .inl (fun jq => nI (Z jq)))), (mv, .inl (cZ, 2048, .inl (fun jq => bI (wn jq)))), (mt, .inl (cI, 10, .inl T))] s.heap := hP
  have hl := lv_entry ([.ref om, .int (nI j), .int td]) (n := 3) (Nat.le_of_ble_eq_true rfl)
  rw [lg_entry_eq]
  generalize (lg_sl ([.ref om, .int (nI j), .int td]) ++ List.replicate (3 - (lg_sl ([.ref om, .int (nI j), .int td])).length) Slot.unset).toArray = ls at hl ⊢
  have hl : lv_has ls 3 [(0, .ref om), (1, .int (nI j)), (2, .int td)] := hl
  refine lv_aload_n hx hb dX2_reply_0 rfl (lv_at hl 0 rfl) ?_
  refine lv_iload_n hx hb dX2_reply_1 rfl (lv_at hl 1 rfl) ?_
  refine lv_iconst (v := nI 0) hx hb dX2_reply_2 (by decide) ?_
  refine lv_nm (y := bI false) (hw_0) ?_
  refine lv_iload_n hx hb dX2_reply_3 rfl (lv_at hl 2 rfl) ?_
  refine hw_callW (ws' := [(om, .inr (2, [.int (nI n), .int (nI a), .int (nI q), .ref my, .ref mz, .int (bI true), .int (if kn = true then sk else -1), .int (bI (kn && mr)), .int (nI u1), .int (nI u2), .ref mv, .int (nI (sd_pos d v)), .int (nI d), .ref mt])), (my, .inl (cI, 24, .inl (fun jq => nI (Y jq)))), (mz, .inl (cI, 24, .inl (fun jq => nI (Z jq)))), (mv, .inl (cZ, 2048, .inl (fun jq => bI ((sd_wn n a (fun w => sd_br Y Z q w == 0)) jq)))), (mt, .inl (cI, 10, .inl T))]) (va_runV (b := om) (As := [.int (nI j), .int (bI false), .int td]) (rest := []) ⟨hx, hb, hml, hown, ht⟩ (m_led l D cI cZ om my mz mv mt n a q d v u1 u2 kn mr sk Y Z T wn ok s.heap.size mk hu1 hu2 j false td hj) (cwV 3 ht (gV wm_X2_X2_led wi_X2_led ws_X2_led wn_X2 wc_X2_led) rfl rfl rfl (by decide +kernel) ⟨Nat.le_of_ble_eq_true rfl, Nat.le_of_ble_eq_true rfl⟩) (wPre_V 0 hP hD hK hN rfl rfl) rfl rfl hl.1 rfl (lv_room (Nat.le_of_ble_eq_true rfl)) dX2_reply_4 ⟨Nat.zero_le _, Nat.zero_le _⟩) hD hS hA rfl (fun H locs hP hD hS => ?_)
  have hP : va_P D clS [(om, .inr (2, [.int (nI n), .int (nI a), .int (nI q), .ref my, .ref mz, .int (bI true), .int (if kn = true then sk else -1), .int (bI (kn && mr)), .int (nI u1), .int (nI u2), .ref mv, .int (nI (sd_pos d v)), .int (nI d), .ref mt])), (my, .inl (cI, 24, .inl (fun jq => nI (Y jq)))), (mz, .inl (cI, 24, .inl (fun jq => nI (Z jq)))), (mv, .inl (cZ, 2048, .inl (fun jq => bI ((sd_wn n a (fun w => sd_br Y Z q w == 0)) jq)))), (mt, .inl (cI, 10, .inl T))] H := hP
  have hD : va_D A [(om, .inr (2, [.int (nI n), .int (nI a), .int (nI q), .ref my, .ref mz, .int (bI true), .int (if kn = true then sk else -1), .int (bI (kn && mr)), .int (nI u1), .int (nI u2), .ref mv, .int (nI (sd_pos d v)), .int (nI d), .ref mt])), (my, .inl (cI, 24, .inl (fun jq => nI (Y jq)))), (mz, .inl (cI, 24, .inl (fun jq => nI (Z jq)))), (mv, .inl (cZ, 2048, .inl (fun jq => bI ((sd_wn n a (fun w => sd_br Y Z q w == 0)) jq)))), (mt, .inl (cI, 10, .inl T))] := hD
  refine W.eq (g2 := F0 m 7 ls [.int (bI (sd_ld n a (fun w => sd_br Y Z q w == 0) false (uN td) j (sd_ac (sd_ld n a (fun w => sd_br Y Z q w == 0) false (uN td)) j)))]) rfl ?_
  exact W.iret hx hb hr (fun t ht2 _ => ⟨hw_ret (rfl), by rw [ht2]; exact hP, hS.F ht2⟩) hS.2.2 dX2_reply_7

set_option maxHeartbeats 4000000 in
set_option maxRecDepth 100000 in
theorem m_answer_no (l : Launch) (D : va_G) (cI cZ : ClassId) (om my mz mv mt n a q d v u1 u2 : Nat) (kn mr : Bool) (sk : Int32) (Y Z : Nat → Nat) (T : Nat → Int32) (wn : Nat → Bool) (ok : dOk n a q d v Y Z) (x td : Int32) (hno : ¬ uN x < n) : Met l yX2_answer (kX2_answer :: aW) { frames := 5, cells := 0, slots := 0, locals := 113 } (rPre [.ref om, .int x, .int td] D [(om, .inr (2, [.int (nI n), .int (nI a), .int (nI q), .ref my, .ref mz, .int (bI kn), .int sk, .int (bI mr), .int (nI u1), .int (nI u2), .ref mv, .int (nI (sd_pos d v)), .int (nI d), .ref mt])), (my, .inl (cI, 24, .inl (fun jq => nI (Y jq)))), (mz, .inl (cI, 24, .inl (fun jq => nI (Z jq)))), (mv, .inl (cZ, 2048, .inl (fun jq => bI (wn jq)))), (mt, .inl (cI, 10, .inl T))] [(cI, .int), (cZ, .boolean)]) (QcRead (-1)) 0 0 (fun _ => False) := by
  obtain ⟨hn1, hn, ha, h5, hq, hY, hZ, hd, hv⟩ := id ok
  have h2n := hw_p10 hn
  refine Met.ofW (cc := cX2_answer) (maxL := 3) (ret := (some .int)) (by decide) rfl ?_
  intro p e s m args below meth c s₁ Bo hml hpre
  obtain ⟨rfl, hP, hK, hN⟩ := hpre
  have hx := Bo.exec
  have hb := Bo.bytes
  have hr := Bo.returns
  have hts := atoms_spec (ws := kX2_answer :: aW) Bo.pre
  have ht : ∀ w ∈ aW, w.before _ s = true := fun w h => hts w (List.mem_cons_of_mem _ h)
  have hown : s.vm.findClass RX2 = some m.cls := findClass_of_methodNamed Bo.named
  have hlocks := Bo.notSynchronized
  have hP : va_P D clS [(om, .inr (2, [.int (nI n), .int (nI a), .int (nI q), .ref my, .ref mz, .int (bI kn), .int sk, .int (bI mr), .int (nI u1), .int (nI u2), .ref mv, .int (nI (sd_pos d v)), .int (nI d), .ref mt])), (my, .inl (cI, 24, .inl (fun jq => nI (Y jq)))), (mz, .inl (cI, 24, .inl (fun jq => nI (Z jq)))), (mv, .inl (cZ, 2048, .inl (fun jq => bI (wn jq)))), (mt, .inl (cI, 10, .inl T))] s.heap := hP
  have hl := lv_entry ([.ref om, .int x, .int td]) (n := 3) (Nat.le_of_ble_eq_true rfl)
  rw [lg_entry_eq]
  generalize (lg_sl ([.ref om, .int x, .int td]) ++ List.replicate (3 - (lg_sl ([.ref om, .int x, .int td])).length) Slot.unset).toArray = ls at hl ⊢
  have hl : lv_has ls 3 [(0, .ref om), (1, .int x), (2, .int td)] := hl
  refine lv_aload_n hx hb dX2_answer_0 rfl (lv_at hl 0 rfl) ?_
  refine lv_iload_n hx hb dX2_answer_1 rfl (lv_at hl 1 rfl) ?_
  refine lv_iconst (v := nI 1) hx hb dX2_answer_2 (by decide) ?_
  refine lv_nm (y := bI true) (hw_1) ?_
  refine lv_iload_n hx hb dX2_answer_3 rfl (lv_at hl 2 rfl) ?_
  refine hw_callR (va_runV (b := om) (As := [.int x, .int (bI true), .int td]) (rest := []) ⟨hx, hb, hml, hown, ht⟩ (m_led_no l D cI cZ om my mz mv mt n a q d v u1 u2 kn mr sk Y Z T wn ok x td true hno) (cwV 3 ht (gV wm_X2_X2_led wi_X2_led ws_X2_led wn_X2 wc_X2_led) rfl rfl rfl (by decide +kernel) ⟨Nat.le_of_ble_eq_true rfl, Nat.le_of_ble_eq_true rfl⟩) (rPre_V 0 hP hK hN rfl rfl) rfl rfl hl.1 rfl (lv_room (Nat.le_of_ble_eq_true rfl)) dX2_answer_4 ⟨Nat.zero_le _, Nat.zero_le _⟩) ?_
  exact W.iret hx hb hr (fun t ht2 _ => ⟨hw_ret (rfl), ht2⟩) (fun _ h => by cases h) dX2_answer_7

set_option maxHeartbeats 4000000 in
set_option maxRecDepth 100000 in
theorem m_answer (l : Launch) (D : va_G) (cI cZ : ClassId) (om my mz mv mt n a q d v u1 u2 : Nat) (kn mr : Bool) (sk : Int32) (Y Z : Nat → Nat) (T : Nat → Int32) (wn : Nat → Bool) (ok : dOk n a q d v Y Z) (sz : Nat) (mk : mOk n kn wn (sd_wn n a (fun w => sd_br Y Z q w == 0))) (hu1 : u1 < 2 ^ n) (hu2 : u2 < 2 ^ n) (j : Nat) (td : Int32) (hj : j < n) : Met l yX2_answer (kX2_answer :: aW) { frames := 5, cells := 0, slots := 0, locals := 113 } (wPre [.ref om, .int (nI j), .int td] D [(om, .inr (2, [.int (nI n), .int (nI a), .int (nI q), .ref my, .ref mz, .int (bI kn), .int sk, .int (bI mr), .int (nI u1), .int (nI u2), .ref mv, .int (nI (sd_pos d v)), .int (nI d), .ref mt])), (my, .inl (cI, 24, .inl (fun jq => nI (Y jq)))), (mz, .inl (cI, 24, .inl (fun jq => nI (Z jq)))), (mv, .inl (cZ, 2048, .inl (fun jq => bI (wn jq)))), (mt, .inl (cI, 10, .inl T))] [(cI, .int), (cZ, .boolean)] sz) (wQ (some (.int (bI (sd_ld n a (fun w => sd_br Y Z q w == 0) true (uN td) j (sd_ac (sd_ld n a (fun w => sd_br Y Z q w == 0) true (uN td)) j))))) D [(om, .inr (2, [.int (nI n), .int (nI a), .int (nI q), .ref my, .ref mz, .int (bI true), .int (if kn = true then sk else -1), .int (bI (kn && mr)), .int (nI u1), .int (nI u2), .ref mv, .int (nI (sd_pos d v)), .int (nI d), .ref mt])), (my, .inl (cI, 24, .inl (fun jq => nI (Y jq)))), (mz, .inl (cI, 24, .inl (fun jq => nI (Z jq)))), (mv, .inl (cZ, 2048, .inl (fun jq => bI ((sd_wn n a (fun w => sd_br Y Z q w == 0)) jq)))), (mt, .inl (cI, 10, .inl T))] (va_A [(om, .inr (2, [.int (nI n), .int (nI a), .int (nI q), .ref my, .ref mz, .int (bI kn), .int sk, .int (bI mr), .int (nI u1), .int (nI u2), .ref mv, .int (nI (sd_pos d v)), .int (nI d), .ref mt])), (my, .inl (cI, 24, .inl (fun jq => nI (Y jq)))), (mz, .inl (cI, 24, .inl (fun jq => nI (Z jq)))), (mv, .inl (cZ, 2048, .inl (fun jq => bI (wn jq)))), (mt, .inl (cI, 10, .inl T))] sz)) 0 0 (va_A [(om, .inr (2, [.int (nI n), .int (nI a), .int (nI q), .ref my, .ref mz, .int (bI kn), .int sk, .int (bI mr), .int (nI u1), .int (nI u2), .ref mv, .int (nI (sd_pos d v)), .int (nI d), .ref mt])), (my, .inl (cI, 24, .inl (fun jq => nI (Y jq)))), (mz, .inl (cI, 24, .inl (fun jq => nI (Z jq)))), (mv, .inl (cZ, 2048, .inl (fun jq => bI (wn jq)))), (mt, .inl (cI, 10, .inl T))] sz) := by
  obtain ⟨hn1, hn, ha, h5, hq, hY, hZ, hd, hv⟩ := id ok
  have h2n := hw_p10 hn
  refine Met.ofW (cc := cX2_answer) (maxL := 3) (ret := (some .int)) (by decide) rfl ?_
  intro p e s m args below meth c s₁ Bo hml hpre
  obtain ⟨rfl, hsz, hP, hK, hN, hD0⟩ := hpre
  subst hsz
  have hD := hD0.self (sz := s.heap.size)
  generalize hAe : va_A [(om, .inr (2, [.int (nI n), .int (nI a), .int (nI q), .ref my, .ref mz, .int (bI kn), .int sk, .int (bI mr), .int (nI u1), .int (nI u2), .ref mv, .int (nI (sd_pos d v)), .int (nI d), .ref mt])), (my, .inl (cI, 24, .inl (fun jq => nI (Y jq)))), (mz, .inl (cI, 24, .inl (fun jq => nI (Z jq)))), (mv, .inl (cZ, 2048, .inl (fun jq => bI (wn jq)))), (mt, .inl (cI, 10, .inl T))] s.heap.size = A at hD ⊢
  have hA : ∀ q : Nat, s.heap.size ≤ q → A q := fun q h => by rw [← hAe]; exact Or.inr h
  have hS : va_S A s.heap s.heap [] := va_S.rf
  have hx := Bo.exec
  have hb := Bo.bytes
  have hr := Bo.returns
  have hts := atoms_spec (ws := kX2_answer :: aW) Bo.pre
  have ht : ∀ w ∈ aW, w.before _ s = true := fun w h => hts w (List.mem_cons_of_mem _ h)
  have hown : s.vm.findClass RX2 = some m.cls := findClass_of_methodNamed Bo.named
  have hlocks := Bo.notSynchronized
  have hP : va_P D clS [(om, .inr (2, [.int (nI n), .int (nI a), .int (nI q), .ref my, .ref mz, .int (bI kn), .int sk, .int (bI mr), .int (nI u1), .int (nI u2), .ref mv, .int (nI (sd_pos d v)), .int (nI d), .ref mt])), (my, .inl (cI, 24, .inl (fun jq => nI (Y jq)))), (mz, .inl (cI, 24, .inl (fun jq => nI (Z jq)))), (mv, .inl (cZ, 2048, .inl (fun jq => bI (wn jq)))), (mt, .inl (cI, 10, .inl T))] s.heap := hP
  have hl := lv_entry ([.ref om, .int (nI j), .int td]) (n := 3) (Nat.le_of_ble_eq_true rfl)
  rw [lg_entry_eq]
  generalize (lg_sl ([.ref om, .int (nI j), .int td]) ++ List.replicate (3 - (lg_sl ([.ref om, .int (nI j), .int td])).length) Slot.unset).toArray = ls at hl ⊢
  have hl : lv_has ls 3 [(0, .ref om), (1, .int (nI j)), (2, .int td)] := hl
  refine lv_aload_n hx hb dX2_answer_0 rfl (lv_at hl 0 rfl) ?_
  refine lv_iload_n hx hb dX2_answer_1 rfl (lv_at hl 1 rfl) ?_
  refine lv_iconst (v := nI 1) hx hb dX2_answer_2 (by decide) ?_
  refine lv_nm (y := bI true) (hw_1) ?_
  refine lv_iload_n hx hb dX2_answer_3 rfl (lv_at hl 2 rfl) ?_
  refine hw_callW (ws' := [(om, .inr (2, [.int (nI n), .int (nI a), .int (nI q), .ref my, .ref mz, .int (bI true), .int (if kn = true then sk else -1), .int (bI (kn && mr)), .int (nI u1), .int (nI u2), .ref mv, .int (nI (sd_pos d v)), .int (nI d), .ref mt])), (my, .inl (cI, 24, .inl (fun jq => nI (Y jq)))), (mz, .inl (cI, 24, .inl (fun jq => nI (Z jq)))), (mv, .inl (cZ, 2048, .inl (fun jq => bI ((sd_wn n a (fun w => sd_br Y Z q w == 0)) jq)))), (mt, .inl (cI, 10, .inl T))]) (va_runV (b := om) (As := [.int (nI j), .int (bI true), .int td]) (rest := []) ⟨hx, hb, hml, hown, ht⟩ (m_led l D cI cZ om my mz mv mt n a q d v u1 u2 kn mr sk Y Z T wn ok s.heap.size mk hu1 hu2 j true td hj) (cwV 3 ht (gV wm_X2_X2_led wi_X2_led ws_X2_led wn_X2 wc_X2_led) rfl rfl rfl (by decide +kernel) ⟨Nat.le_of_ble_eq_true rfl, Nat.le_of_ble_eq_true rfl⟩) (wPre_V 0 hP hD hK hN rfl rfl) rfl rfl hl.1 rfl (lv_room (Nat.le_of_ble_eq_true rfl)) dX2_answer_4 ⟨Nat.zero_le _, Nat.zero_le _⟩) hD hS hA rfl (fun H locs hP hD hS => ?_)
  have hP : va_P D clS [(om, .inr (2, [.int (nI n), .int (nI a), .int (nI q), .ref my, .ref mz, .int (bI true), .int (if kn = true then sk else -1), .int (bI (kn && mr)), .int (nI u1), .int (nI u2), .ref mv, .int (nI (sd_pos d v)), .int (nI d), .ref mt])), (my, .inl (cI, 24, .inl (fun jq => nI (Y jq)))), (mz, .inl (cI, 24, .inl (fun jq => nI (Z jq)))), (mv, .inl (cZ, 2048, .inl (fun jq => bI ((sd_wn n a (fun w => sd_br Y Z q w == 0)) jq)))), (mt, .inl (cI, 10, .inl T))] H := hP
  have hD : va_D A [(om, .inr (2, [.int (nI n), .int (nI a), .int (nI q), .ref my, .ref mz, .int (bI true), .int (if kn = true then sk else -1), .int (bI (kn && mr)), .int (nI u1), .int (nI u2), .ref mv, .int (nI (sd_pos d v)), .int (nI d), .ref mt])), (my, .inl (cI, 24, .inl (fun jq => nI (Y jq)))), (mz, .inl (cI, 24, .inl (fun jq => nI (Z jq)))), (mv, .inl (cZ, 2048, .inl (fun jq => bI ((sd_wn n a (fun w => sd_br Y Z q w == 0)) jq)))), (mt, .inl (cI, 10, .inl T))] := hD
  refine W.eq (g2 := F0 m 7 ls [.int (bI (sd_ld n a (fun w => sd_br Y Z q w == 0) true (uN td) j (sd_ac (sd_ld n a (fun w => sd_br Y Z q w == 0) true (uN td)) j)))]) rfl ?_
  exact W.iret hx hb hr (fun t ht2 _ => ⟨hw_ret (rfl), by rw [ht2]; exact hP, hS.F ht2⟩) hS.2.2 dX2_answer_7
end
