section
-- ===== PART A: goes FIRST, ahead of the names: the tables' words, and 'selects' of the private methods out of them =====
/-- a private method of a class that the tables say can be made, by its rows of tables_1 -/
def lw_okq (q : MethodName × Nat) : Prop := (q.1.cls ≠ "java/lang/invoke/MethodHandle" ∧ q.1.cls ≠ "java/lang/invoke/VarHandle") ∧ Cond.instantiable q.1.cls q.2 ∈ tables_1 ∧ Cond.privateMethod q.1 ∈ tables_1 ∧ Cond.instanceMethod q.1 ∈ tables_1
theorem lw_p0 : lw_okq (⟨"StrategyDesk$Game", "judgeAll", "()V"⟩, 4) := ⟨⟨by decide +kernel, by decide +kernel⟩, List.mem_of_getElem? (i := 27) (by decide +kernel), List.mem_of_getElem? (i := 33) (by decide +kernel), List.mem_of_getElem? (i := 34) (by decide +kernel)⟩
theorem lw_p1 : lw_okq (⟨"StrategyDesk$Game", "judgeDepth", "(I)V"⟩, 4) := ⟨⟨by decide +kernel, by decide +kernel⟩, List.mem_of_getElem? (i := 27) (by decide +kernel), List.mem_of_getElem? (i := 37) (by decide +kernel), List.mem_of_getElem? (i := 38) (by decide +kernel)⟩
theorem lw_p2 : lw_okq (⟨"StrategyDesk", "areSets", "(II)Z"⟩, 10) := ⟨⟨by decide +kernel, by decide +kernel⟩, List.mem_of_getElem? (i := 7) (by decide +kernel), List.mem_of_getElem? (i := 104) (by decide +kernel), List.mem_of_getElem? (i := 105) (by decide +kernel)⟩
theorem lw_p3 : lw_okq (⟨"StrategyDesk", "isClause", "(I)Z"⟩, 10) := ⟨⟨by decide +kernel, by decide +kernel⟩, List.mem_of_getElem? (i := 7) (by decide +kernel), List.mem_of_getElem? (i := 116) (by decide +kernel), List.mem_of_getElem? (i := 117) (by decide +kernel)⟩
theorem lw_p4 : lw_okq (⟨"StrategyDesk", "isVariable", "(I)Z"⟩, 10) := ⟨⟨by decide +kernel, by decide +kernel⟩, List.mem_of_getElem? (i := 7) (by decide +kernel), List.mem_of_getElem? (i := 153) (by decide +kernel), List.mem_of_getElem? (i := 154) (by decide +kernel)⟩
theorem lw_p5 : lw_okq (⟨"StrategyDesk", "valuesWithBest", "(II)I"⟩, 10) := ⟨⟨by decide +kernel, by decide +kernel⟩, List.mem_of_getElem? (i := 7) (by decide +kernel), List.mem_of_getElem? (i := 157) (by decide +kernel), List.mem_of_getElem? (i := 158) (by decide +kernel)⟩
theorem lw_p6 : lw_okq (⟨"StrategyDesk", "leavesWinner", "(III)Z"⟩, 10) := ⟨⟨by decide +kernel, by decide +kernel⟩, List.mem_of_getElem? (i := 7) (by decide +kernel), List.mem_of_getElem? (i := 169) (by decide +kernel), List.mem_of_getElem? (i := 170) (by decide +kernel)⟩
theorem lw_p7 : lw_okq (⟨"StrategyDesk", "isEves", "(I)Z"⟩, 10) := ⟨⟨by decide +kernel, by decide +kernel⟩, List.mem_of_getElem? (i := 7) (by decide +kernel), List.mem_of_getElem? (i := 189) (by decide +kernel), List.mem_of_getElem? (i := 190) (by decide +kernel)⟩
theorem lw_p8 : lw_okq (⟨"StrategyDesk", "sumsBefore", "(I)I"⟩, 10) := ⟨⟨by decide +kernel, by decide +kernel⟩, List.mem_of_getElem? (i := 7) (by decide +kernel), List.mem_of_getElem? (i := 197) (by decide +kernel), List.mem_of_getElem? (i := 198) (by decide +kernel)⟩
theorem lw_p9 : lw_okq (⟨"StrategyDesk", "valuesWithClaims", "(I)I"⟩, 10) := ⟨⟨by decide +kernel, by decide +kernel⟩, List.mem_of_getElem? (i := 7) (by decide +kernel), List.mem_of_getElem? (i := 207) (by decide +kernel), List.mem_of_getElem? (i := 208) (by decide +kernel)⟩
theorem lw_p10 : lw_okq (⟨"StrategyDesk", "adamValues", "(I)I"⟩, 10) := ⟨⟨by decide +kernel, by decide +kernel⟩, List.mem_of_getElem? (i := 7) (by decide +kernel), List.mem_of_getElem? (i := 211) (by decide +kernel), List.mem_of_getElem? (i := 212) (by decide +kernel)⟩
theorem lw_p11 : lw_okq (⟨"StrategyDesk", "sumBefore", "(II)I"⟩, 10) := ⟨⟨by decide +kernel, by decide +kernel⟩, List.mem_of_getElem? (i := 7) (by decide +kernel), List.mem_of_getElem? (i := 215) (by decide +kernel), List.mem_of_getElem? (i := 216) (by decide +kernel)⟩
theorem lw_p12 : lw_okq (⟨"StrategyDesk", "claimValues", "(II)V"⟩, 10) := ⟨⟨by decide +kernel, by decide +kernel⟩, List.mem_of_getElem? (i := 7) (by decide +kernel), List.mem_of_getElem? (i := 223) (by decide +kernel), List.mem_of_getElem? (i := 224) (by decide +kernel)⟩
theorem lw_p13 : lw_okq (⟨"StrategyDeskModel", "strange", "(I)Z"⟩, 14) := ⟨⟨by decide +kernel, by decide +kernel⟩, List.mem_of_getElem? (i := 235) (by decide +kernel), List.mem_of_getElem? (i := 296) (by decide +kernel), List.mem_of_getElem? (i := 297) (by decide +kernel)⟩
theorem lw_p14 : lw_okq (⟨"StrategyDeskModel", "noClause", "(I)Z"⟩, 14) := ⟨⟨by decide +kernel, by decide +kernel⟩, List.mem_of_getElem? (i := 235) (by decide +kernel), List.mem_of_getElem? (i := 304) (by decide +kernel), List.mem_of_getElem? (i := 305) (by decide +kernel)⟩
theorem lw_p15 : lw_okq (⟨"StrategyDeskModel", "look", "()V"⟩, 14) := ⟨⟨by decide +kernel, by decide +kernel⟩, List.mem_of_getElem? (i := 235) (by decide +kernel), List.mem_of_getElem? (i := 328) (by decide +kernel), List.mem_of_getElem? (i := 329) (by decide +kernel)⟩
def lw_privs_1 : List (MethodName × Nat) := [(⟨"StrategyDesk$Game", "judgeAll", "()V"⟩, 4), (⟨"StrategyDesk$Game", "judgeDepth", "(I)V"⟩, 4), (⟨"StrategyDesk", "areSets", "(II)Z"⟩, 10), (⟨"StrategyDesk", "isClause", "(I)Z"⟩, 10), (⟨"StrategyDesk", "isVariable", "(I)Z"⟩, 10), (⟨"StrategyDesk", "valuesWithBest", "(II)I"⟩, 10), (⟨"StrategyDesk", "leavesWinner", "(III)Z"⟩, 10), (⟨"StrategyDesk", "isEves", "(I)Z"⟩, 10), (⟨"StrategyDesk", "sumsBefore", "(I)I"⟩, 10), (⟨"StrategyDesk", "valuesWithClaims", "(I)I"⟩, 10), (⟨"StrategyDesk", "adamValues", "(I)I"⟩, 10), (⟨"StrategyDesk", "sumBefore", "(II)I"⟩, 10), (⟨"StrategyDesk", "claimValues", "(II)V"⟩, 10), (⟨"StrategyDeskModel", "strange", "(I)Z"⟩, 14), (⟨"StrategyDeskModel", "noClause", "(I)Z"⟩, 14), (⟨"StrategyDeskModel", "look", "()V"⟩, 14)]
theorem lw_r1 : ∀ q ∈ lw_privs_1, lw_okq q := List.forall_mem_cons.mpr ⟨lw_p0, List.forall_mem_cons.mpr ⟨lw_p1, List.forall_mem_cons.mpr ⟨lw_p2, List.forall_mem_cons.mpr ⟨lw_p3, List.forall_mem_cons.mpr ⟨lw_p4, List.forall_mem_cons.mpr ⟨lw_p5, List.forall_mem_cons.mpr ⟨lw_p6, List.forall_mem_cons.mpr ⟨lw_p7, List.forall_mem_cons.mpr ⟨lw_p8, List.forall_mem_cons.mpr ⟨lw_p9, List.forall_mem_cons.mpr ⟨lw_p10, List.forall_mem_cons.mpr ⟨lw_p11, List.forall_mem_cons.mpr ⟨lw_p12, List.forall_mem_cons.mpr ⟨lw_p13, List.forall_mem_cons.mpr ⟨lw_p14, List.forall_mem_cons.mpr ⟨lw_p15, fun _ h => absurd h List.not_mem_nil⟩⟩⟩⟩⟩⟩⟩⟩⟩⟩⟩⟩⟩⟩⟩⟩
theorem lw_p16 : lw_okq (⟨"StrategyDeskModel", "fill", "()V"⟩, 14) := ⟨⟨by decide +kernel, by decide +kernel⟩, List.mem_of_getElem? (i := 235) (by decide +kernel), List.mem_of_getElem? (i := 332) (by decide +kernel), List.mem_of_getElem? (i := 333) (by decide +kernel)⟩
theorem lw_p17 : lw_okq (⟨"StrategyDeskModel", "onesAt", "(I)I"⟩, 14) := ⟨⟨by decide +kernel, by decide +kernel⟩, List.mem_of_getElem? (i := 235) (by decide +kernel), List.mem_of_getElem? (i := 336) (by decide +kernel), List.mem_of_getElem? (i := 337) (by decide +kernel)⟩
theorem lw_p18 : lw_okq (⟨"StrategyDeskModel", "allHold", "(I)Z"⟩, 14) := ⟨⟨by decide +kernel, by decide +kernel⟩, List.mem_of_getElem? (i := 235) (by decide +kernel), List.mem_of_getElem? (i := 340) (by decide +kernel), List.mem_of_getElem? (i := 341) (by decide +kernel)⟩
theorem lw_p19 : lw_okq (⟨"StrategyDeskModel", "isAdams", "(I)Z"⟩, 14) := ⟨⟨by decide +kernel, by decide +kernel⟩, List.mem_of_getElem? (i := 235) (by decide +kernel), List.mem_of_getElem? (i := 347) (by decide +kernel), List.mem_of_getElem? (i := 348) (by decide +kernel)⟩
theorem lw_p20 : lw_okq (⟨"StrategyDeskModel", "move", "(II)I"⟩, 14) := ⟨⟨by decide +kernel, by decide +kernel⟩, List.mem_of_getElem? (i := 235) (by decide +kernel), List.mem_of_getElem? (i := 355) (by decide +kernel), List.mem_of_getElem? (i := 356) (by decide +kernel)⟩
theorem lw_p21 : lw_okq (⟨"StrategyDeskModel", "led", "(IZI)I"⟩, 14) := ⟨⟨by decide +kernel, by decide +kernel⟩, List.mem_of_getElem? (i := 235) (by decide +kernel), List.mem_of_getElem? (i := 363) (by decide +kernel), List.mem_of_getElem? (i := 364) (by decide +kernel)⟩
theorem lw_p22 : lw_okq (⟨"StrategyDeskModel", "noEves", "(I)Z"⟩, 14) := ⟨⟨by decide +kernel, by decide +kernel⟩, List.mem_of_getElem? (i := 235) (by decide +kernel), List.mem_of_getElem? (i := 387) (by decide +kernel), List.mem_of_getElem? (i := 388) (by decide +kernel)⟩
theorem lw_p23 : lw_okq (⟨"StrategyDeskModel", "before", "(I)I"⟩, 14) := ⟨⟨by decide +kernel, by decide +kernel⟩, List.mem_of_getElem? (i := 235) (by decide +kernel), List.mem_of_getElem? (i := 395) (by decide +kernel), List.mem_of_getElem? (i := 396) (by decide +kernel)⟩
theorem lw_p24 : lw_okq (⟨"StrategyDeskModel", "reached", "(I)I"⟩, 14) := ⟨⟨by decide +kernel, by decide +kernel⟩, List.mem_of_getElem? (i := 235) (by decide +kernel), List.mem_of_getElem? (i := 403) (by decide +kernel), List.mem_of_getElem? (i := 404) (by decide +kernel)⟩
def lw_privs_2 : List (MethodName × Nat) := [(⟨"StrategyDeskModel", "fill", "()V"⟩, 14), (⟨"StrategyDeskModel", "onesAt", "(I)I"⟩, 14), (⟨"StrategyDeskModel", "allHold", "(I)Z"⟩, 14), (⟨"StrategyDeskModel", "isAdams", "(I)Z"⟩, 14), (⟨"StrategyDeskModel", "move", "(II)I"⟩, 14), (⟨"StrategyDeskModel", "led", "(IZI)I"⟩, 14), (⟨"StrategyDeskModel", "noEves", "(I)Z"⟩, 14), (⟨"StrategyDeskModel", "before", "(I)I"⟩, 14), (⟨"StrategyDeskModel", "reached", "(I)I"⟩, 14)]
theorem lw_r2 : ∀ q ∈ lw_privs_2, lw_okq q := List.forall_mem_cons.mpr ⟨lw_p16, List.forall_mem_cons.mpr ⟨lw_p17, List.forall_mem_cons.mpr ⟨lw_p18, List.forall_mem_cons.mpr ⟨lw_p19, List.forall_mem_cons.mpr ⟨lw_p20, List.forall_mem_cons.mpr ⟨lw_p21, List.forall_mem_cons.mpr ⟨lw_p22, List.forall_mem_cons.mpr ⟨lw_p23, List.forall_mem_cons.mpr ⟨lw_p24, fun _ h => absurd h List.not_mem_nil⟩⟩⟩⟩⟩⟩⟩⟩⟩
def lw_privs : List (MethodName × Nat) := lw_privs_1 ++ (lw_privs_2)
def lw_tbl : List Cond := k2_sels lw_privs ++ tables_1
theorem lw_privs_ok : ∀ q ∈ lw_privs, lw_okq q := by
  show ∀ q ∈ lw_privs_1 ++ (lw_privs_2), lw_okq q
  exact List.forall_mem_append.mpr ⟨lw_r1, lw_r2⟩
def RX0 : String := "StrategyDesk$Game"
def TX0 : u_T := fun k => match k with
  | 0 => ("StrategyDesk$Game", "size", "I", true)
  | 1 => ("StrategyDesk$Game", "adamSet", "I", true)
  | 2 => ("StrategyDesk$Game", "broken", "[I", true)
  | _ => ("StrategyDesk$Game", "eveWins", "[Z", true)
def tyX0 : Nat → FieldType := fun k => match k with
  | 0 => .int
  | 1 => .int
  | 2 => .array .int
  | _ => .array .boolean
theorem nmX0 : ∀ a, a < 4 → ∀ b, b < 4 → a ≠ b → (TX0 a).2.1 ≠ (TX0 b).2.1 := by decide +kernel
theorem tyX0_ok : ∀ k, k < 4 → parseFieldDescriptor (TX0 k).2.2.1 = some (tyX0 k) := by decide +kernel
def RX1 : String := "StrategyDesk"
def TX1 : u_T := fun k => match k with
  | 0 => ("StrategyDesk", "size", "I", true)
  | 1 => ("StrategyDesk", "adamSet", "I", true)
  | 2 => ("StrategyDesk", "eveSet", "I", true)
  | 3 => ("StrategyDesk", "game", "LStrategyDesk$Game;", true)
  | 4 => ("StrategyDesk", "yesSets", "[I", true)
  | 5 => ("StrategyDesk", "noSets", "[I", true)
  | 6 => ("StrategyDesk", "clauseCount", "I", false)
  | 7 => ("StrategyDesk", "playDepth", "I", false)
  | 8 => ("StrategyDesk", "playValues", "I", false)
  | _ => ("StrategyDesk", "tables", "[I", true)
def tyX1 : Nat → FieldType := fun k => match k with
  | 0 => .int
  | 1 => .int
  | 2 => .int
  | 3 => .object "StrategyDesk$Game"
  | 4 => .array .int
  | 5 => .array .int
  | 6 => .int
  | 7 => .int
  | 8 => .int
  | _ => .array .int
theorem nmX1 : ∀ a, a < 10 → ∀ b, b < 10 → a ≠ b → (TX1 a).2.1 ≠ (TX1 b).2.1 := by decide +kernel
theorem tyX1_ok : ∀ k, k < 10 → parseFieldDescriptor (TX1 k).2.2.1 = some (tyX1 k) := by decide +kernel
def RX2 : String := "StrategyDeskModel"
def TX2 : u_T := fun k => match k with
  | 0 => ("StrategyDeskModel", "n", "I", true)
  | 1 => ("StrategyDeskModel", "adam", "I", true)
  | 2 => ("StrategyDeskModel", "many", "I", false)
  | 3 => ("StrategyDeskModel", "yes", "[I", true)
  | 4 => ("StrategyDeskModel", "no", "[I", true)
  | 5 => ("StrategyDeskModel", "known", "Z", false)
  | 6 => ("StrategyDeskModel", "skip", "I", false)
  | 7 => ("StrategyDeskModel", "more", "Z", false)
  | 8 => ("StrategyDeskModel", "moreYes", "I", false)
  | 9 => ("StrategyDeskModel", "moreNo", "I", false)
  | 10 => ("StrategyDeskModel", "win", "[Z", true)
  | 11 => ("StrategyDeskModel", "position", "I", false)
  | 12 => ("StrategyDeskModel", "set", "I", false)
  | _ => ("StrategyDeskModel", "tables", "[I", true)
def tyX2 : Nat → FieldType := fun k => match k with
  | 0 => .int
  | 1 => .int
  | 2 => .int
  | 3 => .array .int
  | 4 => .array .int
  | 5 => .boolean
  | 6 => .int
  | 7 => .boolean
  | 8 => .int
  | 9 => .int
  | 10 => .array .boolean
  | 11 => .int
  | 12 => .int
  | _ => .array .int
theorem nmX2 : ∀ a, a < 14 → ∀ b, b < 14 → a ≠ b → (TX2 a).2.1 ≠ (TX2 b).2.1 := by decide +kernel
theorem tyX2_ok : ∀ k, k < 14 → parseFieldDescriptor (TX2 k).2.2.1 = some (tyX2 k) := by decide +kernel
def RJ6 : String := "java/lang/Integer"
def RJ9 : String := "java/lang/Math"
def RL : String := "StrategyDeskLaw"
abbrev cX1_init : ByteArray := prog_1_method_1_code
def yX1_init : MethodName := ⟨RX1, "<init>", "(II)V"⟩
abbrev kX1_init : Cond := .code yX1_init cX1_init 4 none
abbrev cJ9_min : ByteArray := prog_6_method_69_code
def yJ9_min : MethodName := ⟨RJ9, "min", "(II)I"⟩
abbrev kJ9_min : Cond := .code yJ9_min cJ9_min 2 (some .int)
abbrev cJ9_max : ByteArray := prog_6_method_65_code
def yJ9_max : MethodName := ⟨RJ9, "max", "(II)I"⟩
abbrev kJ9_max : Cond := .code yJ9_max cJ9_max 2 (some .int)
abbrev cX1_firstOf : ByteArray := prog_1_method_33_code
def yX1_firstOf : MethodName := ⟨RX1, "firstOf", "(II)I"⟩
abbrev kX1_firstOf : Cond := .code yX1_firstOf cX1_firstOf 5 (some .int)
abbrev cX1_bit : ByteArray := prog_1_method_32_code
def yX1_bit : MethodName := ⟨RX1, "bit", "(II)I"⟩
abbrev kX1_bit : Cond := .code yX1_bit cX1_bit 2 (some .int)
abbrev cX0_init : ByteArray := prog_2_method_1_code
def yX0_init : MethodName := ⟨RX0, "<init>", "(II)V"⟩
abbrev kX0_init : Cond := .code yX0_init cX0_init 3 none
abbrev cX0_judgeAll : ByteArray := prog_2_method_6_code
def yX0_judgeAll : MethodName := ⟨RX0, "judgeAll", "()V"⟩
abbrev kX0_judgeAll : Cond := .code yX0_judgeAll cX0_judgeAll 2 none
abbrev cX0_judgeDepth : ByteArray := prog_2_method_7_code
def yX0_judgeDepth : MethodName := ⟨RX0, "judgeDepth", "(I)V"⟩
abbrev kX0_judgeDepth : Cond := .code yX0_judgeDepth cX0_judgeDepth 7 none
abbrev cX0_eveWinsAt : ByteArray := prog_2_method_2_code
def yX0_eveWinsAt : MethodName := ⟨RX0, "eveWinsAt", "(II)Z"⟩
abbrev kX0_eveWinsAt : Cond := .code yX0_eveWinsAt cX0_eveWinsAt 3 (some .boolean)
abbrev cX1_variables : ByteArray := prog_1_method_2_code
def yX1_variables : MethodName := ⟨RX1, "variables", "()I"⟩
abbrev kX1_variables : Cond := .code yX1_variables cX1_variables 1 (some .int)
abbrev cX1_adams : ByteArray := prog_1_method_3_code
def yX1_adams : MethodName := ⟨RX1, "adams", "()I"⟩
abbrev kX1_adams : Cond := .code yX1_adams cX1_adams 1 (some .int)
abbrev cX1_add : ByteArray := prog_1_method_4_code
def yX1_add : MethodName := ⟨RX1, "add", "(II)I"⟩
abbrev kX1_add : Cond := .code yX1_add cX1_add 3 (some .int)
abbrev cX1_areSets : ByteArray := prog_1_method_24_code
def yX1_areSets : MethodName := ⟨RX1, "areSets", "(II)Z"⟩
abbrev kX1_areSets : Cond := .code yX1_areSets cX1_areSets 3 (some .boolean)
abbrev cX0_change : ByteArray := prog_2_method_5_code
def yX0_change : MethodName := ⟨RX0, "change", "(III)V"⟩
abbrev kX0_change : Cond := .code yX0_change cX0_change 5 none
abbrev cX1_drop : ByteArray := prog_1_method_5_code
def yX1_drop : MethodName := ⟨RX1, "drop", "(I)Z"⟩
abbrev kX1_drop : Cond := .code yX1_drop cX1_drop 3 (some .boolean)
abbrev cX1_isClause : ByteArray := prog_1_method_23_code
def yX1_isClause : MethodName := ⟨RX1, "isClause", "(I)Z"⟩
abbrev kX1_isClause : Cond := .code yX1_isClause cX1_isClause 2 (some .boolean)
abbrev cX1_clauses : ByteArray := prog_1_method_6_code
def yX1_clauses : MethodName := ⟨RX1, "clauses", "()I"⟩
abbrev kX1_clauses : Cond := .code yX1_clauses cX1_clauses 1 (some .int)
abbrev cX1_play : ByteArray := prog_1_method_7_code
def yX1_play : MethodName := ⟨RX1, "play", "(I)I"⟩
abbrev kX1_play : Cond := .code yX1_play cX1_play 2 (some .int)
abbrev cX1_undo : ByteArray := prog_1_method_8_code
def yX1_undo : MethodName := ⟨RX1, "undo", "()Z"⟩
abbrev kX1_undo : Cond := .code yX1_undo cX1_undo 1 (some .boolean)
abbrev cX1_played : ByteArray := prog_1_method_9_code
def yX1_played : MethodName := ⟨RX1, "played", "()I"⟩
abbrev kX1_played : Cond := .code yX1_played cX1_played 1 (some .int)
abbrev cX1_wins : ByteArray := prog_1_method_10_code
def yX1_wins : MethodName := ⟨RX1, "wins", "()Z"⟩
abbrev kX1_wins : Cond := .code yX1_wins cX1_wins 1 (some .boolean)
abbrev cX1_best : ByteArray := prog_1_method_11_code
def yX1_best : MethodName := ⟨RX1, "best", "()I"⟩
abbrev kX1_best : Cond := .code yX1_best cX1_best 1 (some .int)
abbrev cX0_bestMove : ByteArray := prog_2_method_3_code
def yX0_bestMove : MethodName := ⟨RX0, "bestMove", "(II)I"⟩
abbrev kX0_bestMove : Cond := .code yX0_bestMove cX0_bestMove 6 (some .int)
abbrev cX1_reply : ByteArray := prog_1_method_12_code
def yX1_reply : MethodName := ⟨RX1, "reply", "(II)I"⟩
abbrev kX1_reply : Cond := .code yX1_reply cX1_reply 3 (some .int)
abbrev cX1_isVariable : ByteArray := prog_1_method_21_code
def yX1_isVariable : MethodName := ⟨RX1, "isVariable", "(I)Z"⟩
abbrev kX1_isVariable : Cond := .code yX1_isVariable cX1_isVariable 2 (some .boolean)
abbrev cX1_valuesWithBest : ByteArray := prog_1_method_26_code
def yX1_valuesWithBest : MethodName := ⟨RX1, "valuesWithBest", "(II)I"⟩
abbrev kX1_valuesWithBest : Cond := .code yX1_valuesWithBest cX1_valuesWithBest 6 (some .int)
abbrev cX1_answer : ByteArray := prog_1_method_13_code
def yX1_answer : MethodName := ⟨RX1, "answer", "(II)I"⟩
abbrev kX1_answer : Cond := .code yX1_answer cX1_answer 3 (some .int)
abbrev cX1_idle : ByteArray := prog_1_method_14_code
def yX1_idle : MethodName := ⟨RX1, "idle", "(I)Z"⟩
abbrev kX1_idle : Cond := .code yX1_idle cX1_idle 2 (some .boolean)
abbrev cX1_leavesWinner : ByteArray := prog_1_method_25_code
def yX1_leavesWinner : MethodName := ⟨RX1, "leavesWinner", "(III)Z"⟩
abbrev kX1_leavesWinner : Cond := .code yX1_leavesWinner cX1_leavesWinner 6 (some .boolean)
abbrev cX1_harmless : ByteArray := prog_1_method_15_code
def yX1_harmless : MethodName := ⟨RX1, "harmless", "(II)Z"⟩
abbrev kX1_harmless : Cond := .code yX1_harmless cX1_harmless 3 (some .boolean)
abbrev cX1_models : ByteArray := prog_1_method_16_code
def yX1_models : MethodName := ⟨RX1, "models", "()I"⟩
abbrev kX1_models : Cond := .code yX1_models cX1_models 1 (some .int)
abbrev cX0_countModels : ByteArray := prog_2_method_4_code
def yX0_countModels : MethodName := ⟨RX0, "countModels", "()I"⟩
abbrev kX0_countModels : Cond := .code yX0_countModels cX0_countModels 3 (some .int)
abbrev cX1_claim : ByteArray := prog_1_method_17_code
def yX1_claim : MethodName := ⟨RX1, "claim", "(II)Z"⟩
abbrev kX1_claim : Cond := .code yX1_claim cX1_claim 3 (some .boolean)
abbrev cX1_isEves : ByteArray := prog_1_method_22_code
def yX1_isEves : MethodName := ⟨RX1, "isEves", "(I)Z"⟩
abbrev kX1_isEves : Cond := .code yX1_isEves cX1_isEves 2 (some .boolean)
abbrev cX1_gap : ByteArray := prog_1_method_18_code
def yX1_gap : MethodName := ⟨RX1, "gap", "()I"⟩
abbrev kX1_gap : Cond := .code yX1_gap cX1_gap 3 (some .int)
abbrev cX1_sumsBefore : ByteArray := prog_1_method_30_code
def yX1_sumsBefore : MethodName := ⟨RX1, "sumsBefore", "(I)I"⟩
abbrev kX1_sumsBefore : Cond := .code yX1_sumsBefore cX1_sumsBefore 2 (some .int)
abbrev cJ6_bitCount : ByteArray := prog_5_method_49_code
def yJ6_bitCount : MethodName := ⟨RJ6, "bitCount", "(I)I"⟩
abbrev kJ6_bitCount : Cond := .code yJ6_bitCount cJ6_bitCount 1 (some .int)
abbrev cX1_valuesWithClaims : ByteArray := prog_1_method_27_code
def yX1_valuesWithClaims : MethodName := ⟨RX1, "valuesWithClaims", "(I)I"⟩
abbrev kX1_valuesWithClaims : Cond := .code yX1_valuesWithClaims cX1_valuesWithClaims 4 (some .int)
abbrev cX1_adamValues : ByteArray := prog_1_method_29_code
def yX1_adamValues : MethodName := ⟨RX1, "adamValues", "(I)I"⟩
abbrev kX1_adamValues : Cond := .code yX1_adamValues cX1_adamValues 5 (some .int)
abbrev cX1_sumBefore : ByteArray := prog_1_method_31_code
def yX1_sumBefore : MethodName := ⟨RX1, "sumBefore", "(II)I"⟩
abbrev kX1_sumBefore : Cond := .code yX1_sumBefore cX1_sumBefore 3 (some .int)
abbrev cX1_learn : ByteArray := prog_1_method_19_code
def yX1_learn : MethodName := ⟨RX1, "learn", "()I"⟩
abbrev kX1_learn : Cond := .code yX1_learn cX1_learn 3 (some .int)
abbrev cX1_claimValues : ByteArray := prog_1_method_28_code
def yX1_claimValues : MethodName := ⟨RX1, "claimValues", "(II)V"⟩
abbrev kX1_claimValues : Cond := .code yX1_claimValues cX1_claimValues 4 none
abbrev cX1_claimed : ByteArray := prog_1_method_20_code
def yX1_claimed : MethodName := ⟨RX1, "claimed", "(II)I"⟩
abbrev kX1_claimed : Cond := .code yX1_claimed cX1_claimed 3 (some .int)
abbrev cL_cell : ByteArray := method_2_code
def yL_cell : MethodName := ⟨RL, "cell", "([II)I"⟩
abbrev kL_cell : Cond := .code yL_cell cL_cell 2 (some .int)
abbrev cX2_init : ByteArray := prog_4_method_1_code
def yX2_init : MethodName := ⟨RX2, "<init>", "(II)V"⟩
abbrev kX2_init : Cond := .code yX2_init cX2_init 6 none
abbrev cX2_variables : ByteArray := prog_4_method_2_code
def yX2_variables : MethodName := ⟨RX2, "variables", "()I"⟩
abbrev kX2_variables : Cond := .code yX2_variables cX2_variables 1 (some .int)
abbrev cX2_adams : ByteArray := prog_4_method_3_code
def yX2_adams : MethodName := ⟨RX2, "adams", "()I"⟩
abbrev kX2_adams : Cond := .code yX2_adams cX2_adams 1 (some .int)
abbrev cX2_add : ByteArray := prog_4_method_5_code
def yX2_add : MethodName := ⟨RX2, "add", "(II)I"⟩
abbrev kX2_add : Cond := .code yX2_add cX2_add 3 (some .int)
abbrev cX2_strange : ByteArray := prog_4_method_4_code
def yX2_strange : MethodName := ⟨RX2, "strange", "(I)Z"⟩
abbrev kX2_strange : Cond := .code yX2_strange cX2_strange 2 (some .boolean)
abbrev cX2_drop : ByteArray := prog_4_method_7_code
def yX2_drop : MethodName := ⟨RX2, "drop", "(I)Z"⟩
abbrev kX2_drop : Cond := .code yX2_drop cX2_drop 3 (some .boolean)
abbrev cX2_noClause : ByteArray := prog_4_method_6_code
def yX2_noClause : MethodName := ⟨RX2, "noClause", "(I)Z"⟩
abbrev kX2_noClause : Cond := .code yX2_noClause cX2_noClause 2 (some .boolean)
abbrev cX2_clauses : ByteArray := prog_4_method_8_code
def yX2_clauses : MethodName := ⟨RX2, "clauses", "()I"⟩
abbrev kX2_clauses : Cond := .code yX2_clauses cX2_clauses 1 (some .int)
abbrev cX2_play : ByteArray := prog_4_method_16_code
def yX2_play : MethodName := ⟨RX2, "play", "(I)I"⟩
abbrev kX2_play : Cond := .code yX2_play cX2_play 2 (some .int)
abbrev cX2_undo : ByteArray := prog_4_method_17_code
def yX2_undo : MethodName := ⟨RX2, "undo", "()Z"⟩
abbrev kX2_undo : Cond := .code yX2_undo cX2_undo 1 (some .boolean)
abbrev cX2_played : ByteArray := prog_4_method_18_code
def yX2_played : MethodName := ⟨RX2, "played", "()I"⟩
abbrev kX2_played : Cond := .code yX2_played cX2_played 1 (some .int)
abbrev cX2_wins : ByteArray := prog_4_method_19_code
def yX2_wins : MethodName := ⟨RX2, "wins", "()Z"⟩
abbrev kX2_wins : Cond := .code yX2_wins cX2_wins 1 (some .boolean)
abbrev cX2_look : ByteArray := prog_4_method_14_code
def yX2_look : MethodName := ⟨RX2, "look", "()V"⟩
abbrev kX2_look : Cond := .code yX2_look cX2_look 1 none
abbrev cX2_fill : ByteArray := prog_4_method_13_code
def yX2_fill : MethodName := ⟨RX2, "fill", "()V"⟩
abbrev kX2_fill : Cond := .code yX2_fill cX2_fill 3 none
abbrev cX2_onesAt : ByteArray := prog_4_method_12_code
def yX2_onesAt : MethodName := ⟨RX2, "onesAt", "(I)I"⟩
abbrev kX2_onesAt : Cond := .code yX2_onesAt cX2_onesAt 4 (some .int)
abbrev cX2_allHold : ByteArray := prog_4_method_11_code
def yX2_allHold : MethodName := ⟨RX2, "allHold", "(I)Z"⟩
abbrev kX2_allHold : Cond := .code yX2_allHold cX2_allHold 4 (some .boolean)
abbrev cX2_holds : ByteArray := prog_4_method_10_code
def yX2_holds : MethodName := ⟨RX2, "holds", "(III)Z"⟩
abbrev kX2_holds : Cond := .code yX2_holds cX2_holds 3 (some .boolean)
abbrev cX2_isAdams : ByteArray := prog_4_method_9_code
def yX2_isAdams : MethodName := ⟨RX2, "isAdams", "(I)Z"⟩
abbrev kX2_isAdams : Cond := .code yX2_isAdams cX2_isAdams 2 (some .boolean)
abbrev cX2_best : ByteArray := prog_4_method_20_code
def yX2_best : MethodName := ⟨RX2, "best", "()I"⟩
abbrev kX2_best : Cond := .code yX2_best cX2_best 1 (some .int)
abbrev cX2_move : ByteArray := prog_4_method_15_code
def yX2_move : MethodName := ⟨RX2, "move", "(II)I"⟩
abbrev kX2_move : Cond := .code yX2_move cX2_move 5 (some .int)
abbrev cX2_reply : ByteArray := prog_4_method_22_code
def yX2_reply : MethodName := ⟨RX2, "reply", "(II)I"⟩
abbrev kX2_reply : Cond := .code yX2_reply cX2_reply 3 (some .int)
abbrev cX2_led : ByteArray := prog_4_method_21_code
def yX2_led : MethodName := ⟨RX2, "led", "(IZI)I"⟩
abbrev kX2_led : Cond := .code yX2_led cX2_led 7 (some .int)
abbrev cX2_answer : ByteArray := prog_4_method_23_code
def yX2_answer : MethodName := ⟨RX2, "answer", "(II)I"⟩
abbrev kX2_answer : Cond := .code yX2_answer cX2_answer 3 (some .int)
abbrev cX2_idle : ByteArray := prog_4_method_24_code
def yX2_idle : MethodName := ⟨RX2, "idle", "(I)Z"⟩
abbrev kX2_idle : Cond := .code yX2_idle cX2_idle 3 (some .boolean)
abbrev cX2_harmless : ByteArray := prog_4_method_25_code
def yX2_harmless : MethodName := ⟨RX2, "harmless", "(II)Z"⟩
abbrev kX2_harmless : Cond := .code yX2_harmless cX2_harmless 4 (some .boolean)
abbrev cX2_models : ByteArray := prog_4_method_26_code
def yX2_models : MethodName := ⟨RX2, "models", "()I"⟩
abbrev kX2_models : Cond := .code yX2_models cX2_models 3 (some .int)
abbrev cX2_claim : ByteArray := prog_4_method_29_code
def yX2_claim : MethodName := ⟨RX2, "claim", "(II)Z"⟩
abbrev kX2_claim : Cond := .code yX2_claim cX2_claim 3 (some .boolean)
abbrev cX2_noEves : ByteArray := prog_4_method_28_code
def yX2_noEves : MethodName := ⟨RX2, "noEves", "(I)Z"⟩
abbrev kX2_noEves : Cond := .code yX2_noEves cX2_noEves 2 (some .boolean)
abbrev cX2_claimed : ByteArray := prog_4_method_30_code
def yX2_claimed : MethodName := ⟨RX2, "claimed", "(II)I"⟩
abbrev kX2_claimed : Cond := .code yX2_claimed cX2_claimed 3 (some .int)
abbrev cX2_before : ByteArray := prog_4_method_27_code
def yX2_before : MethodName := ⟨RX2, "before", "(I)I"⟩
abbrev kX2_before : Cond := .code yX2_before cX2_before 4 (some .int)
abbrev cX2_gap : ByteArray := prog_4_method_32_code
def yX2_gap : MethodName := ⟨RX2, "gap", "()I"⟩
abbrev kX2_gap : Cond := .code yX2_gap cX2_gap 2 (some .int)
abbrev cX2_reached : ByteArray := prog_4_method_31_code
def yX2_reached : MethodName := ⟨RX2, "reached", "(I)I"⟩
abbrev kX2_reached : Cond := .code yX2_reached cX2_reached 6 (some .int)
abbrev cX2_learn : ByteArray := prog_4_method_33_code
def yX2_learn : MethodName := ⟨RX2, "learn", "()I"⟩
abbrev kX2_learn : Cond := .code yX2_learn cX2_learn 4 (some .int)
abbrev clS : List vw_C := [(RX0, TX0, 4), (RX1, TX1, 10), (RX2, TX2, 14)]
/-- the words that every contract takes: the good ones of the tables -/
def aW : List Cond := lw_tbl.filter goodWord
theorem aW_mem {w : Cond} (i : Nat) (h : lw_tbl[i]? = some w) (g : goodWord w = true) : w ∈ aW := List.mem_filter.mpr ⟨List.mem_of_getElem? h, g⟩
theorem aW_good (w : Cond) (h : w ∈ aW) : goodWord w = true := (List.mem_filter.mp h).2
theorem aW_in (w : Cond) (h : w ∈ aW) : w ∈ lw_tbl := (List.mem_filter.mp h).1
theorem ws_X0_judgeAll : Cond.selects RX0 yX0_judgeAll yX0_judgeAll ∈ aW := aW_mem 0 rfl rfl
theorem ws_X0_judgeDepth : Cond.selects RX0 yX0_judgeDepth yX0_judgeDepth ∈ aW := aW_mem 1 rfl rfl
theorem ws_X1_areSets : Cond.selects RX1 yX1_areSets yX1_areSets ∈ aW := aW_mem 2 rfl rfl
theorem ws_X1_isClause : Cond.selects RX1 yX1_isClause yX1_isClause ∈ aW := aW_mem 3 rfl rfl
theorem ws_X1_isVariable : Cond.selects RX1 yX1_isVariable yX1_isVariable ∈ aW := aW_mem 4 rfl rfl
theorem ws_X1_valuesWithBest : Cond.selects RX1 yX1_valuesWithBest yX1_valuesWithBest ∈ aW := aW_mem 5 rfl rfl
theorem ws_X1_leavesWinner : Cond.selects RX1 yX1_leavesWinner yX1_leavesWinner ∈ aW := aW_mem 6 rfl rfl
theorem ws_X1_isEves : Cond.selects RX1 yX1_isEves yX1_isEves ∈ aW := aW_mem 7 rfl rfl
theorem ws_X1_sumsBefore : Cond.selects RX1 yX1_sumsBefore yX1_sumsBefore ∈ aW := aW_mem 8 rfl rfl
theorem ws_X1_valuesWithClaims : Cond.selects RX1 yX1_valuesWithClaims yX1_valuesWithClaims ∈ aW := aW_mem 9 rfl rfl
theorem ws_X1_adamValues : Cond.selects RX1 yX1_adamValues yX1_adamValues ∈ aW := aW_mem 10 rfl rfl
theorem ws_X1_sumBefore : Cond.selects RX1 yX1_sumBefore yX1_sumBefore ∈ aW := aW_mem 11 rfl rfl
theorem ws_X1_claimValues : Cond.selects RX1 yX1_claimValues yX1_claimValues ∈ aW := aW_mem 12 rfl rfl
theorem ws_X2_strange : Cond.selects RX2 yX2_strange yX2_strange ∈ aW := aW_mem 13 rfl rfl
theorem ws_X2_noClause : Cond.selects RX2 yX2_noClause yX2_noClause ∈ aW := aW_mem 14 rfl rfl
theorem ws_X2_look : Cond.selects RX2 yX2_look yX2_look ∈ aW := aW_mem 15 rfl rfl
theorem ws_X2_fill : Cond.selects RX2 yX2_fill yX2_fill ∈ aW := aW_mem 16 rfl rfl
theorem ws_X2_onesAt : Cond.selects RX2 yX2_onesAt yX2_onesAt ∈ aW := aW_mem 17 rfl rfl
theorem ws_X2_allHold : Cond.selects RX2 yX2_allHold yX2_allHold ∈ aW := aW_mem 18 rfl rfl
theorem ws_X2_isAdams : Cond.selects RX2 yX2_isAdams yX2_isAdams ∈ aW := aW_mem 19 rfl rfl
theorem ws_X2_move : Cond.selects RX2 yX2_move yX2_move ∈ aW := aW_mem 20 rfl rfl
theorem ws_X2_led : Cond.selects RX2 yX2_led yX2_led ∈ aW := aW_mem 21 rfl rfl
theorem ws_X2_noEves : Cond.selects RX2 yX2_noEves yX2_noEves ∈ aW := aW_mem 22 rfl rfl
theorem ws_X2_before : Cond.selects RX2 yX2_before yX2_before ∈ aW := aW_mem 23 rfl rfl
theorem ws_X2_reached : Cond.selects RX2 yX2_reached yX2_reached ∈ aW := aW_mem 24 rfl rfl
theorem wn_L : Cond.initialized RL ∈ aW := aW_mem 25 rfl rfl
theorem wn_X1 : Cond.initialized RX1 ∈ aW := aW_mem 26 rfl rfl
theorem wn_J9 : Cond.initialized RJ9 ∈ aW := aW_mem 27 rfl rfl
theorem wn_X0 : Cond.initialized RX0 ∈ aW := aW_mem 28 rfl rfl
theorem wn_X2 : Cond.initialized RX2 ∈ aW := aW_mem 29 rfl rfl
theorem wn_J6 : Cond.initialized RJ6 ∈ aW := aW_mem 30 rfl rfl
theorem wl_L_X1 : Cond.classLink RL 7 RX1 ∈ aW := aW_mem 31 rfl rfl
theorem wk_X1 : Cond.instantiable RX1 10 ∈ aW := aW_mem 32 rfl rfl
theorem wm_L_X1_init : Cond.methodLink RL 15 yX1_init ∈ aW := aW_mem 33 rfl rfl
theorem wi_X1_init : Cond.instanceMethod yX1_init ∈ aW := aW_mem 34 rfl rfl
theorem wc_X1_init : kX1_init ∈ aW := aW_mem 35 rfl rfl
theorem wm_X1_O_init : Cond.methodLink RX1 1 objectInit ∈ aW := aW_mem 36 rfl rfl
theorem wi_O_init : Cond.instanceMethod objectInit ∈ aW := aW_mem 37 rfl rfl
theorem wc_O_init : Cond.code objectInit ⟨#[0xb1]⟩ 1 none ∈ aW := aW_mem 38 rfl rfl
theorem wm_X1_J9_min : Cond.methodLink RX1 9 yJ9_min ∈ aW := aW_mem 39 rfl rfl
theorem wt_J9_min : Cond.static yJ9_min ∈ aW := aW_mem 40 rfl rfl
theorem wc_J9_min : kJ9_min ∈ aW := aW_mem 41 rfl rfl
theorem wm_X1_J9_max : Cond.methodLink RX1 15 yJ9_max ∈ aW := aW_mem 42 rfl rfl
theorem wt_J9_max : Cond.static yJ9_max ∈ aW := aW_mem 43 rfl rfl
theorem wc_J9_max : kJ9_max ∈ aW := aW_mem 44 rfl rfl
theorem wm_X1_X1_firstOf : Cond.methodLink RX1 22 yX1_firstOf ∈ aW := aW_mem 45 rfl rfl
theorem wt_X1_firstOf : Cond.static yX1_firstOf ∈ aW := aW_mem 46 rfl rfl
theorem wc_X1_firstOf : kX1_firstOf ∈ aW := aW_mem 47 rfl rfl
theorem wm_X1_X1_bit : Cond.methodLink RX1 83 yX1_bit ∈ aW := aW_mem 48 rfl rfl
theorem wt_X1_bit : Cond.static yX1_bit ∈ aW := aW_mem 49 rfl rfl
theorem wc_X1_bit : kX1_bit ∈ aW := aW_mem 50 rfl rfl
theorem wl_X1_X0 : Cond.classLink RX1 31 RX0 ∈ aW := aW_mem 51 rfl rfl
theorem wk_X0 : Cond.instantiable RX0 4 ∈ aW := aW_mem 52 rfl rfl
theorem wm_X1_X0_init : Cond.methodLink RX1 33 yX0_init ∈ aW := aW_mem 53 rfl rfl
theorem wi_X0_init : Cond.instanceMethod yX0_init ∈ aW := aW_mem 54 rfl rfl
theorem wc_X0_init : kX0_init ∈ aW := aW_mem 55 rfl rfl
theorem wm_X0_O_init : Cond.methodLink RX0 1 objectInit ∈ aW := aW_mem 56 rfl rfl
theorem wm_X0_X0_judgeAll : Cond.methodLink RX0 24 yX0_judgeAll ∈ aW := aW_mem 57 rfl rfl
theorem wi_X0_judgeAll : Cond.instanceMethod yX0_judgeAll ∈ aW := aW_mem 59 rfl rfl
theorem wc_X0_judgeAll : kX0_judgeAll ∈ aW := aW_mem 60 rfl rfl
theorem wm_X0_X0_judgeDepth : Cond.methodLink RX0 37 yX0_judgeDepth ∈ aW := aW_mem 61 rfl rfl
theorem wi_X0_judgeDepth : Cond.instanceMethod yX0_judgeDepth ∈ aW := aW_mem 63 rfl rfl
theorem wc_X0_judgeDepth : kX0_judgeDepth ∈ aW := aW_mem 64 rfl rfl
theorem wm_X0_X0_eveWinsAt : Cond.methodLink RX0 33 yX0_eveWinsAt ∈ aW := aW_mem 66 rfl rfl
theorem wi_X0_eveWinsAt : Cond.instanceMethod yX0_eveWinsAt ∈ aW := aW_mem 67 rfl rfl
theorem ws_X0_eveWinsAt : Cond.selects RX0 yX0_eveWinsAt yX0_eveWinsAt ∈ aW := aW_mem 68 rfl rfl
theorem wc_X0_eveWinsAt : kX0_eveWinsAt ∈ aW := aW_mem 69 rfl rfl
theorem wf_X0_size : Cond.fieldLink RX0 7 RX0 "size" "I" ∈ aW := aW_mem 70 rfl rfl
theorem wf_X0_adamSet : Cond.fieldLink RX0 13 RX0 "adamSet" "I" ∈ aW := aW_mem 71 rfl rfl
theorem wf_X0_broken : Cond.fieldLink RX0 16 RX0 "broken" "[I" ∈ aW := aW_mem 72 rfl rfl
theorem wf_X0_eveWins : Cond.fieldLink RX0 20 RX0 "eveWins" "[Z" ∈ aW := aW_mem 73 rfl rfl
theorem wa_int : Cond.arrayClass .int ∈ aW := aW_mem 83 rfl rfl
theorem wa_boolean : Cond.arrayClass .boolean ∈ aW := aW_mem 84 rfl rfl
theorem wf_X1_size : Cond.fieldLink RX1 18 RX1 "size" "I" ∈ aW := aW_mem 85 rfl rfl
theorem wf_X1_adamSet : Cond.fieldLink RX1 25 RX1 "adamSet" "I" ∈ aW := aW_mem 86 rfl rfl
theorem wf_X1_eveSet : Cond.fieldLink RX1 28 RX1 "eveSet" "I" ∈ aW := aW_mem 87 rfl rfl
theorem wf_X1_game : Cond.fieldLink RX1 36 RX1 "game" "LStrategyDesk$Game;" ∈ aW := aW_mem 88 rfl rfl
theorem wf_X1_yesSets : Cond.fieldLink RX1 40 RX1 "yesSets" "[I" ∈ aW := aW_mem 89 rfl rfl
theorem wf_X1_noSets : Cond.fieldLink RX1 44 RX1 "noSets" "[I" ∈ aW := aW_mem 90 rfl rfl
theorem wf_X1_clauseCount : Cond.fieldLink RX1 54 RX1 "clauseCount" "I" ∈ aW := aW_mem 91 rfl rfl
theorem wf_X1_playDepth : Cond.fieldLink RX1 65 RX1 "playDepth" "I" ∈ aW := aW_mem 92 rfl rfl
theorem wf_X1_playValues : Cond.fieldLink RX1 68 RX1 "playValues" "I" ∈ aW := aW_mem 93 rfl rfl
theorem wf_X1_tables : Cond.fieldLink RX1 47 RX1 "tables" "[I" ∈ aW := aW_mem 94 rfl rfl
theorem wm_L_X1_variables : Cond.methodLink RL 21 yX1_variables ∈ aW := aW_mem 116 rfl rfl
theorem wi_X1_variables : Cond.instanceMethod yX1_variables ∈ aW := aW_mem 117 rfl rfl
theorem ws_X1_variables : Cond.selects RX1 yX1_variables yX1_variables ∈ aW := aW_mem 118 rfl rfl
theorem wc_X1_variables : kX1_variables ∈ aW := aW_mem 119 rfl rfl
theorem wm_L_X1_adams : Cond.methodLink RL 26 yX1_adams ∈ aW := aW_mem 120 rfl rfl
theorem wi_X1_adams : Cond.instanceMethod yX1_adams ∈ aW := aW_mem 121 rfl rfl
theorem ws_X1_adams : Cond.selects RX1 yX1_adams yX1_adams ∈ aW := aW_mem 122 rfl rfl
theorem wc_X1_adams : kX1_adams ∈ aW := aW_mem 123 rfl rfl
theorem wm_L_X1_add : Cond.methodLink RL 30 yX1_add ∈ aW := aW_mem 124 rfl rfl
theorem wi_X1_add : Cond.instanceMethod yX1_add ∈ aW := aW_mem 125 rfl rfl
theorem ws_X1_add : Cond.selects RX1 yX1_add yX1_add ∈ aW := aW_mem 126 rfl rfl
theorem wc_X1_add : kX1_add ∈ aW := aW_mem 127 rfl rfl
theorem wm_X1_X1_areSets : Cond.methodLink RX1 50 yX1_areSets ∈ aW := aW_mem 128 rfl rfl
theorem wi_X1_areSets : Cond.instanceMethod yX1_areSets ∈ aW := aW_mem 130 rfl rfl
theorem wc_X1_areSets : kX1_areSets ∈ aW := aW_mem 131 rfl rfl
theorem wm_X1_X0_change : Cond.methodLink RX1 57 yX0_change ∈ aW := aW_mem 132 rfl rfl
theorem wi_X0_change : Cond.instanceMethod yX0_change ∈ aW := aW_mem 133 rfl rfl
theorem ws_X0_change : Cond.selects RX0 yX0_change yX0_change ∈ aW := aW_mem 134 rfl rfl
theorem wc_X0_change : kX0_change ∈ aW := aW_mem 135 rfl rfl
theorem wm_L_X1_drop : Cond.methodLink RL 35 yX1_drop ∈ aW := aW_mem 136 rfl rfl
theorem wi_X1_drop : Cond.instanceMethod yX1_drop ∈ aW := aW_mem 137 rfl rfl
theorem ws_X1_drop : Cond.selects RX1 yX1_drop yX1_drop ∈ aW := aW_mem 138 rfl rfl
theorem wc_X1_drop : kX1_drop ∈ aW := aW_mem 139 rfl rfl
theorem wm_X1_X1_isClause : Cond.methodLink RX1 61 yX1_isClause ∈ aW := aW_mem 140 rfl rfl
theorem wi_X1_isClause : Cond.instanceMethod yX1_isClause ∈ aW := aW_mem 142 rfl rfl
theorem wc_X1_isClause : kX1_isClause ∈ aW := aW_mem 143 rfl rfl
theorem wm_L_X1_clauses : Cond.methodLink RL 40 yX1_clauses ∈ aW := aW_mem 144 rfl rfl
theorem wi_X1_clauses : Cond.instanceMethod yX1_clauses ∈ aW := aW_mem 145 rfl rfl
theorem ws_X1_clauses : Cond.selects RX1 yX1_clauses yX1_clauses ∈ aW := aW_mem 146 rfl rfl
theorem wc_X1_clauses : kX1_clauses ∈ aW := aW_mem 147 rfl rfl
theorem wm_L_X1_play : Cond.methodLink RL 44 yX1_play ∈ aW := aW_mem 148 rfl rfl
theorem wi_X1_play : Cond.instanceMethod yX1_play ∈ aW := aW_mem 149 rfl rfl
theorem ws_X1_play : Cond.selects RX1 yX1_play yX1_play ∈ aW := aW_mem 150 rfl rfl
theorem wc_X1_play : kX1_play ∈ aW := aW_mem 151 rfl rfl
theorem wm_L_X1_undo : Cond.methodLink RL 49 yX1_undo ∈ aW := aW_mem 152 rfl rfl
theorem wi_X1_undo : Cond.instanceMethod yX1_undo ∈ aW := aW_mem 153 rfl rfl
theorem ws_X1_undo : Cond.selects RX1 yX1_undo yX1_undo ∈ aW := aW_mem 154 rfl rfl
theorem wc_X1_undo : kX1_undo ∈ aW := aW_mem 155 rfl rfl
theorem wm_L_X1_played : Cond.methodLink RL 54 yX1_played ∈ aW := aW_mem 156 rfl rfl
theorem wi_X1_played : Cond.instanceMethod yX1_played ∈ aW := aW_mem 157 rfl rfl
theorem ws_X1_played : Cond.selects RX1 yX1_played yX1_played ∈ aW := aW_mem 158 rfl rfl
theorem wc_X1_played : kX1_played ∈ aW := aW_mem 159 rfl rfl
theorem wm_L_X1_wins : Cond.methodLink RL 58 yX1_wins ∈ aW := aW_mem 160 rfl rfl
theorem wi_X1_wins : Cond.instanceMethod yX1_wins ∈ aW := aW_mem 161 rfl rfl
theorem ws_X1_wins : Cond.selects RX1 yX1_wins yX1_wins ∈ aW := aW_mem 162 rfl rfl
theorem wc_X1_wins : kX1_wins ∈ aW := aW_mem 163 rfl rfl
theorem wm_X1_X0_eveWinsAt : Cond.methodLink RX1 71 yX0_eveWinsAt ∈ aW := aW_mem 164 rfl rfl
theorem wm_L_X1_best : Cond.methodLink RL 62 yX1_best ∈ aW := aW_mem 165 rfl rfl
theorem wi_X1_best : Cond.instanceMethod yX1_best ∈ aW := aW_mem 166 rfl rfl
theorem ws_X1_best : Cond.selects RX1 yX1_best yX1_best ∈ aW := aW_mem 167 rfl rfl
theorem wc_X1_best : kX1_best ∈ aW := aW_mem 168 rfl rfl
theorem wm_X1_X0_bestMove : Cond.methodLink RX1 74 yX0_bestMove ∈ aW := aW_mem 169 rfl rfl
theorem wi_X0_bestMove : Cond.instanceMethod yX0_bestMove ∈ aW := aW_mem 170 rfl rfl
theorem ws_X0_bestMove : Cond.selects RX0 yX0_bestMove yX0_bestMove ∈ aW := aW_mem 171 rfl rfl
theorem wc_X0_bestMove : kX0_bestMove ∈ aW := aW_mem 172 rfl rfl
theorem wm_L_X1_reply : Cond.methodLink RL 66 yX1_reply ∈ aW := aW_mem 173 rfl rfl
theorem wi_X1_reply : Cond.instanceMethod yX1_reply ∈ aW := aW_mem 174 rfl rfl
theorem ws_X1_reply : Cond.selects RX1 yX1_reply yX1_reply ∈ aW := aW_mem 175 rfl rfl
theorem wc_X1_reply : kX1_reply ∈ aW := aW_mem 176 rfl rfl
theorem wm_X1_X1_isVariable : Cond.methodLink RX1 77 yX1_isVariable ∈ aW := aW_mem 177 rfl rfl
theorem wi_X1_isVariable : Cond.instanceMethod yX1_isVariable ∈ aW := aW_mem 179 rfl rfl
theorem wc_X1_isVariable : kX1_isVariable ∈ aW := aW_mem 180 rfl rfl
theorem wm_X1_X1_valuesWithBest : Cond.methodLink RX1 80 yX1_valuesWithBest ∈ aW := aW_mem 181 rfl rfl
theorem wi_X1_valuesWithBest : Cond.instanceMethod yX1_valuesWithBest ∈ aW := aW_mem 183 rfl rfl
theorem wc_X1_valuesWithBest : kX1_valuesWithBest ∈ aW := aW_mem 184 rfl rfl
theorem wm_L_X1_answer : Cond.methodLink RL 70 yX1_answer ∈ aW := aW_mem 185 rfl rfl
theorem wi_X1_answer : Cond.instanceMethod yX1_answer ∈ aW := aW_mem 186 rfl rfl
theorem ws_X1_answer : Cond.selects RX1 yX1_answer yX1_answer ∈ aW := aW_mem 187 rfl rfl
theorem wc_X1_answer : kX1_answer ∈ aW := aW_mem 188 rfl rfl
theorem wm_L_X1_idle : Cond.methodLink RL 74 yX1_idle ∈ aW := aW_mem 189 rfl rfl
theorem wi_X1_idle : Cond.instanceMethod yX1_idle ∈ aW := aW_mem 190 rfl rfl
theorem ws_X1_idle : Cond.selects RX1 yX1_idle yX1_idle ∈ aW := aW_mem 191 rfl rfl
theorem wc_X1_idle : kX1_idle ∈ aW := aW_mem 192 rfl rfl
theorem wm_X1_X1_leavesWinner : Cond.methodLink RX1 86 yX1_leavesWinner ∈ aW := aW_mem 193 rfl rfl
theorem wi_X1_leavesWinner : Cond.instanceMethod yX1_leavesWinner ∈ aW := aW_mem 195 rfl rfl
theorem wc_X1_leavesWinner : kX1_leavesWinner ∈ aW := aW_mem 196 rfl rfl
theorem wm_L_X1_harmless : Cond.methodLink RL 78 yX1_harmless ∈ aW := aW_mem 197 rfl rfl
theorem wi_X1_harmless : Cond.instanceMethod yX1_harmless ∈ aW := aW_mem 198 rfl rfl
theorem ws_X1_harmless : Cond.selects RX1 yX1_harmless yX1_harmless ∈ aW := aW_mem 199 rfl rfl
theorem wc_X1_harmless : kX1_harmless ∈ aW := aW_mem 200 rfl rfl
theorem wm_L_X1_models : Cond.methodLink RL 83 yX1_models ∈ aW := aW_mem 201 rfl rfl
theorem wi_X1_models : Cond.instanceMethod yX1_models ∈ aW := aW_mem 202 rfl rfl
theorem ws_X1_models : Cond.selects RX1 yX1_models yX1_models ∈ aW := aW_mem 203 rfl rfl
theorem wc_X1_models : kX1_models ∈ aW := aW_mem 204 rfl rfl
theorem wm_X1_X0_countModels : Cond.methodLink RX1 90 yX0_countModels ∈ aW := aW_mem 205 rfl rfl
theorem wi_X0_countModels : Cond.instanceMethod yX0_countModels ∈ aW := aW_mem 206 rfl rfl
theorem ws_X0_countModels : Cond.selects RX0 yX0_countModels yX0_countModels ∈ aW := aW_mem 207 rfl rfl
theorem wc_X0_countModels : kX0_countModels ∈ aW := aW_mem 208 rfl rfl
theorem wm_L_X1_claim : Cond.methodLink RL 87 yX1_claim ∈ aW := aW_mem 209 rfl rfl
theorem wi_X1_claim : Cond.instanceMethod yX1_claim ∈ aW := aW_mem 210 rfl rfl
theorem ws_X1_claim : Cond.selects RX1 yX1_claim yX1_claim ∈ aW := aW_mem 211 rfl rfl
theorem wc_X1_claim : kX1_claim ∈ aW := aW_mem 212 rfl rfl
theorem wm_X1_X1_isEves : Cond.methodLink RX1 94 yX1_isEves ∈ aW := aW_mem 213 rfl rfl
theorem wi_X1_isEves : Cond.instanceMethod yX1_isEves ∈ aW := aW_mem 215 rfl rfl
theorem wc_X1_isEves : kX1_isEves ∈ aW := aW_mem 216 rfl rfl
theorem wm_L_X1_gap : Cond.methodLink RL 91 yX1_gap ∈ aW := aW_mem 217 rfl rfl
theorem wi_X1_gap : Cond.instanceMethod yX1_gap ∈ aW := aW_mem 218 rfl rfl
theorem ws_X1_gap : Cond.selects RX1 yX1_gap yX1_gap ∈ aW := aW_mem 219 rfl rfl
theorem wc_X1_gap : kX1_gap ∈ aW := aW_mem 220 rfl rfl
theorem wm_X1_X1_sumsBefore : Cond.methodLink RX1 97 yX1_sumsBefore ∈ aW := aW_mem 221 rfl rfl
theorem wi_X1_sumsBefore : Cond.instanceMethod yX1_sumsBefore ∈ aW := aW_mem 223 rfl rfl
theorem wc_X1_sumsBefore : kX1_sumsBefore ∈ aW := aW_mem 224 rfl rfl
theorem wm_X1_J6_bitCount : Cond.methodLink RX1 116 yJ6_bitCount ∈ aW := aW_mem 225 rfl rfl
theorem wt_J6_bitCount : Cond.static yJ6_bitCount ∈ aW := aW_mem 226 rfl rfl
theorem wc_J6_bitCount : kJ6_bitCount ∈ aW := aW_mem 227 rfl rfl
theorem wq_J6_265 : Cond.constant RJ6 265 (1431655765) ∈ aW := aW_mem 228 rfl rfl
theorem wq_J6_266 : Cond.constant RJ6 266 (858993459) ∈ aW := aW_mem 229 rfl rfl
theorem wq_J6_267 : Cond.constant RJ6 267 (252645135) ∈ aW := aW_mem 230 rfl rfl
theorem wm_X1_X1_valuesWithClaims : Cond.methodLink RX1 101 yX1_valuesWithClaims ∈ aW := aW_mem 231 rfl rfl
theorem wi_X1_valuesWithClaims : Cond.instanceMethod yX1_valuesWithClaims ∈ aW := aW_mem 233 rfl rfl
theorem wc_X1_valuesWithClaims : kX1_valuesWithClaims ∈ aW := aW_mem 234 rfl rfl
theorem wm_X1_X1_adamValues : Cond.methodLink RX1 104 yX1_adamValues ∈ aW := aW_mem 235 rfl rfl
theorem wi_X1_adamValues : Cond.instanceMethod yX1_adamValues ∈ aW := aW_mem 237 rfl rfl
theorem wc_X1_adamValues : kX1_adamValues ∈ aW := aW_mem 238 rfl rfl
theorem wm_X1_X1_sumBefore : Cond.methodLink RX1 113 yX1_sumBefore ∈ aW := aW_mem 239 rfl rfl
theorem wi_X1_sumBefore : Cond.instanceMethod yX1_sumBefore ∈ aW := aW_mem 241 rfl rfl
theorem wc_X1_sumBefore : kX1_sumBefore ∈ aW := aW_mem 242 rfl rfl
theorem wm_L_X1_learn : Cond.methodLink RL 95 yX1_learn ∈ aW := aW_mem 243 rfl rfl
theorem wi_X1_learn : Cond.instanceMethod yX1_learn ∈ aW := aW_mem 244 rfl rfl
theorem ws_X1_learn : Cond.selects RX1 yX1_learn yX1_learn ∈ aW := aW_mem 245 rfl rfl
theorem wc_X1_learn : kX1_learn ∈ aW := aW_mem 246 rfl rfl
theorem wm_X1_X1_claimValues : Cond.methodLink RX1 107 yX1_claimValues ∈ aW := aW_mem 247 rfl rfl
theorem wi_X1_claimValues : Cond.instanceMethod yX1_claimValues ∈ aW := aW_mem 249 rfl rfl
theorem wc_X1_claimValues : kX1_claimValues ∈ aW := aW_mem 250 rfl rfl
theorem wm_X1_X1_gap : Cond.methodLink RX1 110 yX1_gap ∈ aW := aW_mem 251 rfl rfl
theorem wm_L_X1_claimed : Cond.methodLink RL 99 yX1_claimed ∈ aW := aW_mem 252 rfl rfl
theorem wi_X1_claimed : Cond.instanceMethod yX1_claimed ∈ aW := aW_mem 253 rfl rfl
theorem ws_X1_claimed : Cond.selects RX1 yX1_claimed yX1_claimed ∈ aW := aW_mem 254 rfl rfl
theorem wc_X1_claimed : kX1_claimed ∈ aW := aW_mem 255 rfl rfl
theorem wm_L_L_cell : Cond.methodLink RL 9 yL_cell ∈ aW := aW_mem 256 rfl rfl
theorem wt_L_cell : Cond.static yL_cell ∈ aW := aW_mem 257 rfl rfl
theorem wc_L_cell : kL_cell ∈ aW := aW_mem 258 rfl rfl
theorem wl_L_X2 : Cond.classLink RL 18 RX2 ∈ aW := aW_mem 259 rfl rfl
theorem wk_X2 : Cond.instantiable RX2 14 ∈ aW := aW_mem 260 rfl rfl
theorem wm_L_X2_init : Cond.methodLink RL 20 yX2_init ∈ aW := aW_mem 261 rfl rfl
theorem wi_X2_init : Cond.instanceMethod yX2_init ∈ aW := aW_mem 262 rfl rfl
theorem wc_X2_init : kX2_init ∈ aW := aW_mem 263 rfl rfl
theorem wm_X2_O_init : Cond.methodLink RX2 1 objectInit ∈ aW := aW_mem 264 rfl rfl
theorem wf_X2_n : Cond.fieldLink RX2 30 RX2 "n" "I" ∈ aW := aW_mem 265 rfl rfl
theorem wf_X2_adam : Cond.fieldLink RX2 33 RX2 "adam" "I" ∈ aW := aW_mem 266 rfl rfl
theorem wf_X2_many : Cond.fieldLink RX2 40 RX2 "many" "I" ∈ aW := aW_mem 267 rfl rfl
theorem wf_X2_yes : Cond.fieldLink RX2 7 RX2 "yes" "[I" ∈ aW := aW_mem 268 rfl rfl
theorem wf_X2_no : Cond.fieldLink RX2 13 RX2 "no" "[I" ∈ aW := aW_mem 269 rfl rfl
theorem wf_X2_known : Cond.fieldLink RX2 43 RX2 "known" "Z" ∈ aW := aW_mem 270 rfl rfl
theorem wf_X2_skip : Cond.fieldLink RX2 16 RX2 "skip" "I" ∈ aW := aW_mem 271 rfl rfl
theorem wf_X2_more : Cond.fieldLink RX2 50 RX2 "more" "Z" ∈ aW := aW_mem 272 rfl rfl
theorem wf_X2_moreYes : Cond.fieldLink RX2 53 RX2 "moreYes" "I" ∈ aW := aW_mem 273 rfl rfl
theorem wf_X2_moreNo : Cond.fieldLink RX2 56 RX2 "moreNo" "I" ∈ aW := aW_mem 274 rfl rfl
theorem wf_X2_win : Cond.fieldLink RX2 20 RX2 "win" "[Z" ∈ aW := aW_mem 275 rfl rfl
theorem wf_X2_position : Cond.fieldLink RX2 24 RX2 "position" "I" ∈ aW := aW_mem 276 rfl rfl
theorem wf_X2_set : Cond.fieldLink RX2 76 RX2 "set" "I" ∈ aW := aW_mem 277 rfl rfl
theorem wf_X2_tables : Cond.fieldLink RX2 27 RX2 "tables" "[I" ∈ aW := aW_mem 278 rfl rfl
theorem wm_L_X2_variables : Cond.methodLink RL 25 yX2_variables ∈ aW := aW_mem 308 rfl rfl
theorem wi_X2_variables : Cond.instanceMethod yX2_variables ∈ aW := aW_mem 309 rfl rfl
theorem ws_X2_variables : Cond.selects RX2 yX2_variables yX2_variables ∈ aW := aW_mem 310 rfl rfl
theorem wc_X2_variables : kX2_variables ∈ aW := aW_mem 311 rfl rfl
theorem wm_L_X2_adams : Cond.methodLink RL 29 yX2_adams ∈ aW := aW_mem 312 rfl rfl
theorem wi_X2_adams : Cond.instanceMethod yX2_adams ∈ aW := aW_mem 313 rfl rfl
theorem ws_X2_adams : Cond.selects RX2 yX2_adams yX2_adams ∈ aW := aW_mem 314 rfl rfl
theorem wc_X2_adams : kX2_adams ∈ aW := aW_mem 315 rfl rfl
theorem wm_L_X2_add : Cond.methodLink RL 34 yX2_add ∈ aW := aW_mem 316 rfl rfl
theorem wi_X2_add : Cond.instanceMethod yX2_add ∈ aW := aW_mem 317 rfl rfl
theorem ws_X2_add : Cond.selects RX2 yX2_add yX2_add ∈ aW := aW_mem 318 rfl rfl
theorem wc_X2_add : kX2_add ∈ aW := aW_mem 319 rfl rfl
theorem wm_X2_X2_strange : Cond.methodLink RX2 36 yX2_strange ∈ aW := aW_mem 320 rfl rfl
theorem wi_X2_strange : Cond.instanceMethod yX2_strange ∈ aW := aW_mem 322 rfl rfl
theorem wc_X2_strange : kX2_strange ∈ aW := aW_mem 323 rfl rfl
theorem wm_L_X2_drop : Cond.methodLink RL 39 yX2_drop ∈ aW := aW_mem 324 rfl rfl
theorem wi_X2_drop : Cond.instanceMethod yX2_drop ∈ aW := aW_mem 325 rfl rfl
theorem ws_X2_drop : Cond.selects RX2 yX2_drop yX2_drop ∈ aW := aW_mem 326 rfl rfl
theorem wc_X2_drop : kX2_drop ∈ aW := aW_mem 327 rfl rfl
theorem wm_X2_X2_noClause : Cond.methodLink RX2 47 yX2_noClause ∈ aW := aW_mem 328 rfl rfl
theorem wi_X2_noClause : Cond.instanceMethod yX2_noClause ∈ aW := aW_mem 330 rfl rfl
theorem wc_X2_noClause : kX2_noClause ∈ aW := aW_mem 331 rfl rfl
theorem wm_L_X2_clauses : Cond.methodLink RL 43 yX2_clauses ∈ aW := aW_mem 332 rfl rfl
theorem wi_X2_clauses : Cond.instanceMethod yX2_clauses ∈ aW := aW_mem 333 rfl rfl
theorem ws_X2_clauses : Cond.selects RX2 yX2_clauses yX2_clauses ∈ aW := aW_mem 334 rfl rfl
theorem wc_X2_clauses : kX2_clauses ∈ aW := aW_mem 335 rfl rfl
theorem wm_L_X2_play : Cond.methodLink RL 48 yX2_play ∈ aW := aW_mem 336 rfl rfl
theorem wi_X2_play : Cond.instanceMethod yX2_play ∈ aW := aW_mem 337 rfl rfl
theorem ws_X2_play : Cond.selects RX2 yX2_play yX2_play ∈ aW := aW_mem 338 rfl rfl
theorem wc_X2_play : kX2_play ∈ aW := aW_mem 339 rfl rfl
theorem wm_L_X2_undo : Cond.methodLink RL 53 yX2_undo ∈ aW := aW_mem 340 rfl rfl
theorem wi_X2_undo : Cond.instanceMethod yX2_undo ∈ aW := aW_mem 341 rfl rfl
theorem ws_X2_undo : Cond.selects RX2 yX2_undo yX2_undo ∈ aW := aW_mem 342 rfl rfl
theorem wc_X2_undo : kX2_undo ∈ aW := aW_mem 343 rfl rfl
theorem wm_L_X2_played : Cond.methodLink RL 57 yX2_played ∈ aW := aW_mem 344 rfl rfl
theorem wi_X2_played : Cond.instanceMethod yX2_played ∈ aW := aW_mem 345 rfl rfl
theorem ws_X2_played : Cond.selects RX2 yX2_played yX2_played ∈ aW := aW_mem 346 rfl rfl
theorem wc_X2_played : kX2_played ∈ aW := aW_mem 347 rfl rfl
theorem wm_L_X2_wins : Cond.methodLink RL 61 yX2_wins ∈ aW := aW_mem 348 rfl rfl
theorem wi_X2_wins : Cond.instanceMethod yX2_wins ∈ aW := aW_mem 349 rfl rfl
theorem ws_X2_wins : Cond.selects RX2 yX2_wins yX2_wins ∈ aW := aW_mem 350 rfl rfl
theorem wc_X2_wins : kX2_wins ∈ aW := aW_mem 351 rfl rfl
theorem wm_X2_X2_look : Cond.methodLink RX2 79 yX2_look ∈ aW := aW_mem 352 rfl rfl
theorem wi_X2_look : Cond.instanceMethod yX2_look ∈ aW := aW_mem 354 rfl rfl
theorem wc_X2_look : kX2_look ∈ aW := aW_mem 355 rfl rfl
theorem wm_X2_X2_fill : Cond.methodLink RX2 73 yX2_fill ∈ aW := aW_mem 356 rfl rfl
theorem wi_X2_fill : Cond.instanceMethod yX2_fill ∈ aW := aW_mem 358 rfl rfl
theorem wc_X2_fill : kX2_fill ∈ aW := aW_mem 359 rfl rfl
theorem wm_X2_X2_onesAt : Cond.methodLink RX2 63 yX2_onesAt ∈ aW := aW_mem 360 rfl rfl
theorem wi_X2_onesAt : Cond.instanceMethod yX2_onesAt ∈ aW := aW_mem 362 rfl rfl
theorem wc_X2_onesAt : kX2_onesAt ∈ aW := aW_mem 363 rfl rfl
theorem wm_X2_X2_allHold : Cond.methodLink RX2 67 yX2_allHold ∈ aW := aW_mem 364 rfl rfl
theorem wi_X2_allHold : Cond.instanceMethod yX2_allHold ∈ aW := aW_mem 366 rfl rfl
theorem wc_X2_allHold : kX2_allHold ∈ aW := aW_mem 367 rfl rfl
theorem wm_X2_X2_holds : Cond.methodLink RX2 59 yX2_holds ∈ aW := aW_mem 368 rfl rfl
theorem wt_X2_holds : Cond.static yX2_holds ∈ aW := aW_mem 369 rfl rfl
theorem wc_X2_holds : kX2_holds ∈ aW := aW_mem 370 rfl rfl
theorem wm_X2_X2_isAdams : Cond.methodLink RX2 70 yX2_isAdams ∈ aW := aW_mem 371 rfl rfl
theorem wi_X2_isAdams : Cond.instanceMethod yX2_isAdams ∈ aW := aW_mem 373 rfl rfl
theorem wc_X2_isAdams : kX2_isAdams ∈ aW := aW_mem 374 rfl rfl
theorem wm_L_X2_best : Cond.methodLink RL 65 yX2_best ∈ aW := aW_mem 375 rfl rfl
theorem wi_X2_best : Cond.instanceMethod yX2_best ∈ aW := aW_mem 376 rfl rfl
theorem ws_X2_best : Cond.selects RX2 yX2_best yX2_best ∈ aW := aW_mem 377 rfl rfl
theorem wc_X2_best : kX2_best ∈ aW := aW_mem 378 rfl rfl
theorem wm_X2_X2_move : Cond.methodLink RX2 82 yX2_move ∈ aW := aW_mem 379 rfl rfl
theorem wi_X2_move : Cond.instanceMethod yX2_move ∈ aW := aW_mem 381 rfl rfl
theorem wc_X2_move : kX2_move ∈ aW := aW_mem 382 rfl rfl
theorem wm_L_X2_reply : Cond.methodLink RL 69 yX2_reply ∈ aW := aW_mem 383 rfl rfl
theorem wi_X2_reply : Cond.instanceMethod yX2_reply ∈ aW := aW_mem 384 rfl rfl
theorem ws_X2_reply : Cond.selects RX2 yX2_reply yX2_reply ∈ aW := aW_mem 385 rfl rfl
theorem wc_X2_reply : kX2_reply ∈ aW := aW_mem 386 rfl rfl
theorem wm_X2_X2_led : Cond.methodLink RX2 86 yX2_led ∈ aW := aW_mem 387 rfl rfl
theorem wi_X2_led : Cond.instanceMethod yX2_led ∈ aW := aW_mem 389 rfl rfl
theorem wc_X2_led : kX2_led ∈ aW := aW_mem 390 rfl rfl
theorem wm_L_X2_answer : Cond.methodLink RL 73 yX2_answer ∈ aW := aW_mem 391 rfl rfl
theorem wi_X2_answer : Cond.instanceMethod yX2_answer ∈ aW := aW_mem 392 rfl rfl
theorem ws_X2_answer : Cond.selects RX2 yX2_answer yX2_answer ∈ aW := aW_mem 393 rfl rfl
theorem wc_X2_answer : kX2_answer ∈ aW := aW_mem 394 rfl rfl
theorem wm_L_X2_idle : Cond.methodLink RL 77 yX2_idle ∈ aW := aW_mem 395 rfl rfl
theorem wi_X2_idle : Cond.instanceMethod yX2_idle ∈ aW := aW_mem 396 rfl rfl
theorem ws_X2_idle : Cond.selects RX2 yX2_idle yX2_idle ∈ aW := aW_mem 397 rfl rfl
theorem wc_X2_idle : kX2_idle ∈ aW := aW_mem 398 rfl rfl
theorem wm_L_X2_harmless : Cond.methodLink RL 82 yX2_harmless ∈ aW := aW_mem 399 rfl rfl
theorem wi_X2_harmless : Cond.instanceMethod yX2_harmless ∈ aW := aW_mem 400 rfl rfl
theorem ws_X2_harmless : Cond.selects RX2 yX2_harmless yX2_harmless ∈ aW := aW_mem 401 rfl rfl
theorem wc_X2_harmless : kX2_harmless ∈ aW := aW_mem 402 rfl rfl
theorem wm_L_X2_models : Cond.methodLink RL 86 yX2_models ∈ aW := aW_mem 403 rfl rfl
theorem wi_X2_models : Cond.instanceMethod yX2_models ∈ aW := aW_mem 404 rfl rfl
theorem ws_X2_models : Cond.selects RX2 yX2_models yX2_models ∈ aW := aW_mem 405 rfl rfl
theorem wc_X2_models : kX2_models ∈ aW := aW_mem 406 rfl rfl
theorem wm_L_X2_claim : Cond.methodLink RL 90 yX2_claim ∈ aW := aW_mem 407 rfl rfl
theorem wi_X2_claim : Cond.instanceMethod yX2_claim ∈ aW := aW_mem 408 rfl rfl
theorem ws_X2_claim : Cond.selects RX2 yX2_claim yX2_claim ∈ aW := aW_mem 409 rfl rfl
theorem wc_X2_claim : kX2_claim ∈ aW := aW_mem 410 rfl rfl
theorem wm_X2_X2_noEves : Cond.methodLink RX2 90 yX2_noEves ∈ aW := aW_mem 411 rfl rfl
theorem wi_X2_noEves : Cond.instanceMethod yX2_noEves ∈ aW := aW_mem 413 rfl rfl
theorem wc_X2_noEves : kX2_noEves ∈ aW := aW_mem 414 rfl rfl
theorem wm_L_X2_claimed : Cond.methodLink RL 102 yX2_claimed ∈ aW := aW_mem 415 rfl rfl
theorem wi_X2_claimed : Cond.instanceMethod yX2_claimed ∈ aW := aW_mem 416 rfl rfl
theorem ws_X2_claimed : Cond.selects RX2 yX2_claimed yX2_claimed ∈ aW := aW_mem 417 rfl rfl
theorem wc_X2_claimed : kX2_claimed ∈ aW := aW_mem 418 rfl rfl
theorem wm_X2_X2_before : Cond.methodLink RX2 93 yX2_before ∈ aW := aW_mem 419 rfl rfl
theorem wi_X2_before : Cond.instanceMethod yX2_before ∈ aW := aW_mem 421 rfl rfl
theorem wc_X2_before : kX2_before ∈ aW := aW_mem 422 rfl rfl
theorem wm_L_X2_gap : Cond.methodLink RL 94 yX2_gap ∈ aW := aW_mem 423 rfl rfl
theorem wi_X2_gap : Cond.instanceMethod yX2_gap ∈ aW := aW_mem 424 rfl rfl
theorem ws_X2_gap : Cond.selects RX2 yX2_gap yX2_gap ∈ aW := aW_mem 425 rfl rfl
theorem wc_X2_gap : kX2_gap ∈ aW := aW_mem 426 rfl rfl
theorem wm_X2_X2_reached : Cond.methodLink RX2 96 yX2_reached ∈ aW := aW_mem 427 rfl rfl
theorem wi_X2_reached : Cond.instanceMethod yX2_reached ∈ aW := aW_mem 429 rfl rfl
theorem wc_X2_reached : kX2_reached ∈ aW := aW_mem 430 rfl rfl
theorem wm_L_X2_learn : Cond.methodLink RL 98 yX2_learn ∈ aW := aW_mem 431 rfl rfl
theorem wi_X2_learn : Cond.instanceMethod yX2_learn ∈ aW := aW_mem 432 rfl rfl
theorem ws_X2_learn : Cond.selects RX2 yX2_learn yX2_learn ∈ aW := aW_mem 433 rfl rfl
theorem wc_X2_learn : kX2_learn ∈ aW := aW_mem 434 rfl rfl
theorem wm_X2_X2_gap : Cond.methodLink RX2 99 yX2_gap ∈ aW := aW_mem 435 rfl rfl
/-- the one link between nest mates: it is no good word, so each contract that needs it says so -/
def nstW : Cond := .methodLinkNest RX0 27 yX1_bit RX1
theorem nstW_in : nstW ∈ lw_tbl := List.mem_of_getElem? (i := 65) rfl
def nst (U : State) : Prop := va_Nw nstW U
theorem inX0 : ∀ w ∈ u_ws RX0 TX0 4, w ∈ aW := by
  intro w h
  obtain ⟨j, hj, rfl⟩ := List.mem_map.mp h
  have hj := List.mem_range.mp hj
  match j, hj with
  | 0, _ => exact aW_mem 74 rfl rfl
  | 1, _ => exact aW_mem 76 rfl rfl
  | 2, _ => exact aW_mem 78 rfl rfl
  | 3, _ => exact aW_mem 80 rfl rfl
  | t + 4, h => omega
theorem inX1 : ∀ w ∈ u_ws RX1 TX1 10, w ∈ aW := by
  intro w h
  obtain ⟨j, hj, rfl⟩ := List.mem_map.mp h
  have hj := List.mem_range.mp hj
  match j, hj with
  | 0, _ => exact aW_mem 95 rfl rfl
  | 1, _ => exact aW_mem 97 rfl rfl
  | 2, _ => exact aW_mem 99 rfl rfl
  | 3, _ => exact aW_mem 101 rfl rfl
  | 4, _ => exact aW_mem 103 rfl rfl
  | 5, _ => exact aW_mem 105 rfl rfl
  | 6, _ => exact aW_mem 107 rfl rfl
  | 7, _ => exact aW_mem 109 rfl rfl
  | 8, _ => exact aW_mem 111 rfl rfl
  | 9, _ => exact aW_mem 113 rfl rfl
  | t + 10, h => omega
theorem inX2 : ∀ w ∈ u_ws RX2 TX2 14, w ∈ aW := by
  intro w h
  obtain ⟨j, hj, rfl⟩ := List.mem_map.mp h
  have hj := List.mem_range.mp hj
  match j, hj with
  | 0, _ => exact aW_mem 279 rfl rfl
  | 1, _ => exact aW_mem 281 rfl rfl
  | 2, _ => exact aW_mem 283 rfl rfl
  | 3, _ => exact aW_mem 285 rfl rfl
  | 4, _ => exact aW_mem 287 rfl rfl
  | 5, _ => exact aW_mem 289 rfl rfl
  | 6, _ => exact aW_mem 291 rfl rfl
  | 7, _ => exact aW_mem 293 rfl rfl
  | 8, _ => exact aW_mem 295 rfl rfl
  | 9, _ => exact aW_mem 297 rfl rfl
  | 10, _ => exact aW_mem 299 rfl rfl
  | 11, _ => exact aW_mem 301 rfl rfl
  | 12, _ => exact aW_mem 303 rfl rfl
  | 13, _ => exact aW_mem 305 rfl rfl
  | t + 14, h => omega
end
section
/-! Help rows of my own: words, contracts of calls that change nothing and of calls that change cells but make none, arrays by Nat places, numbers. -/
-- words
theorem gA {cy : Cond} (h5 : cy ∈ aW) : GoodIn aW (cy :: aW) := by
  intro w hw
  have hm : w ∈ aW := by
    rcases List.mem_cons.mp hw with h | h
    · rw [h]; exact h5
    · exact h
  exact ⟨hm, good_of_word (aW_good w hm)⟩
theorem gV {own C : String} {idx : Nat} {y : MethodName} {cy : Cond} (h1 : Cond.methodLink own idx y ∈ aW) (h2 : Cond.instanceMethod y ∈ aW) (h3 : Cond.selects C y y ∈ aW) (h4 : Cond.initialized C ∈ aW) (h5 : cy ∈ aW) : GoodIn aW (wsV own idx C y (cy :: aW)) := by
  intro w hw
  have hm : w ∈ aW := by
    unfold wsV at hw
    rcases List.mem_append.mp hw with h | h
    · rcases List.mem_cons.mp h with h | h
      · rw [h]; exact h1
      rcases List.mem_cons.mp h with h | h
      · rw [h]; exact h2
      rcases List.mem_cons.mp h with h | h
      · rw [h]; exact h3
      rw [List.mem_singleton.mp h]; exact h4
    · rcases List.mem_cons.mp h with h | h
      · rw [h]; exact h5
      · exact h
  exact ⟨hm, good_of_word (aW_good w hm)⟩
theorem gS {own : String} {idx : Nat} {y : MethodName} {cy : Cond} (h1 : Cond.methodLink own idx y ∈ aW) (h2 : Cond.static y ∈ aW) (h4 : Cond.initialized y.cls ∈ aW) (h5 : cy ∈ aW) : GoodIn aW (va_wsS own idx y (cy :: aW)) := by
  intro w hw
  have hm : w ∈ aW := by
    unfold va_wsS at hw
    rcases List.mem_append.mp hw with h | h
    · rcases List.mem_cons.mp h with h | h
      · rw [h]; exact h1
      rcases List.mem_cons.mp h with h | h
      · rw [h]; exact h2
      rw [List.mem_singleton.mp h]; exact h4
    · rcases List.mem_cons.mp h with h | h
      · rw [h]; exact h5
      · exact h
  exact ⟨hm, good_of_word (aW_good w hm)⟩
-- a bool as an int
def bI (b : Bool) : Int32 := if b then 1 else 0
theorem bI_t : bI true = 1 := rfl
theorem bI_f : bI false = 0 := rfl
theorem bI_nar (b : Bool) : narrow .boolean (.int (bI b)) = .int (bI b) := by cases b <;> rfl
theorem bI_vp (b : Bool) : vp_nar .boolean (bI b) = bI b := by cases b <;> rfl
theorem bI_eq0 (b : Bool) : bI b = 0 ↔ b = false := by cases b <;> decide
theorem bI_inj (a b : Bool) : bI a = bI b ↔ a = b := by cases a <;> cases b <;> decide
theorem bI_eq1 (b : Bool) : bI b = nI 1 ↔ b = true := by cases b <;> decide
theorem bI_ne0 {b : Bool} (h : ¬ bI b = 0) : b = true := by cases b with
  | true => rfl
  | false => exact absurd rfl h
theorem bI_ne1 {b : Bool} (h : ¬ bI b = nI 1) : b = false := by cases b with
  | true => exact absurd rfl h
  | false => rfl
theorem bI_fit (b : Bool) : fits .boolean (.int (bI b)) = true := by cases b <;> rfl
theorem hw_0 : nI 0 = bI false := rfl
theorem hw_1 : nI 1 = bI true := rfl
theorem hw_ret {v r : Int32} (h : v = r) : Outcome.returned (some (Value.int v)) = .returned (some (.int r)) := by rw [h]
theorem bI_upd (f : Nat → Bool) (k : Nat) (b : Bool) : upd (fun j => bI (f j)) k (bI b) = fun j => bI (va_up f k b j) := by
  funext j
  by_cases h : j = k <;> simp [upd, va_up, h]
-- numbers
theorem hw_inc (a : Nat) : nI a + Int32.ofInt 1 = nI (a + 1) := nI_1 a
theorem hw_dec (a : Nat) : nI (a + 1) + Int32.ofInt (-1) = nI a := pk_m1 a
theorem hw_cnt : ∀ n, n < 32 → ((nI n &&& 31).toBitVec.smod 32).toNat = n := by decide +kernel
theorem hw_shl {a d : Nat} (hd : d < 32) (h : a * 2 ^ d < 2 ^ 31) : nI a <<< (nI d &&& 31) = nI (a * 2 ^ d) := pk_shlN _ d (hw_cnt d hd) (by omega)
theorem hw_shl1 {d : Nat} (hd : d < 31) : nI 1 <<< (nI d &&& 31) = nI (2 ^ d) := by
  have h : 2 ^ d < 2 ^ 31 := Nat.pow_lt_pow_right (by decide) hd
  rw [hw_shl (by omega) (by omega), Nat.one_mul]
theorem hw_shl2 {d : Nat} (hd : d < 30) : nI 2 <<< (nI d &&& 31) = nI (2 * 2 ^ d) := by
  have h : 2 ^ d < 2 ^ 30 := Nat.pow_lt_pow_right (by decide) hd
  exact hw_shl (by omega) (by omega)
theorem hw_m1 (x : Int32) : x + Int32.ofInt (-1) = x - 1 := by
  rw [Int32.sub_eq_add_neg]
  rfl
theorem hw_le0 {n : Nat} (hn : n < 2 ^ 31) (h : nI n ≤ 0) : n = 0 := by
  apply Nat.eq_zero_of_not_pos
  intro h0
  exact nI_nle h0 hn h
theorem hw_nle0 {n : Nat} (h : ¬ nI n ≤ 0) : 0 < n := by
  apply Nat.pos_of_ne_zero
  intro h0
  subst h0
  exact h (by decide)
theorem hw_gt0 {n : Nat} (h : 0 < nI n) : 0 < n := by
  apply Nat.pos_of_ne_zero
  intro h0
  subst h0
  exact absurd h (by decide)
theorem hw_ngt0 {n : Nat} (hn : n < 2 ^ 31) (h : ¬ 0 < nI n) : n = 0 := by
  apply Nat.eq_zero_of_not_pos
  intro h0
  exact h (nI_lt h0 hn)
theorem hw_and (a b : Nat) : nI a &&& nI b = nI (a &&& b) := by
  apply Int32.toBitVec_inj.mp
  simp [nI, Int32.toBitVec_and]
theorem hw_or (a b : Nat) : nI a ||| nI b = nI (a ||| b) := by
  apply Int32.toBitVec_inj.mp
  simp [nI, Int32.toBitVec_or]
-- contracts of methods that change nothing
def rPre (av : List Value) (D : va_G) (ws : va_W) (tys : List (ClassId × FieldType)) : Array Value → State → Prop := va_Pc av (fun U => va_P D clS ws U.heap ∧ va_K D clS tys U ∧ nst U)
theorem rPre_blind {av : List Value} {D : va_G} {ws : va_W} {tys : List (ClassId × FieldType)} : FrameBlind (rPre av D ws tys) := fun a U g mk q => ⟨q.1, q.2.1, va_K.moved (u := U) (U := U.calling g mk a) (Vm.Alike.refl U.vm) q.2.2.1, va_Nw.same rfl rfl q.2.2.2⟩
theorem rPre_S {s : State} {H : Heap} {As : List Value} {D : va_G} {ws : va_W} {tys : List (ClassId × FieldType)} (hP : va_P D clS ws H) (hK : va_K D clS tys s) (hN : nst s) : PreS s H (rPre As D ws tys) As := ⟨rPre_blind, fun U hU hW => ⟨rfl, by rw [hU]; exact hP, va_K.moved hW.alike hK, va_Nw.warmM hW hN⟩⟩
theorem rPre_V {s : State} {H : Heap} {b ci : Nat} {C : String} {T : u_T} {N : Nat} {fs : List Value} {As : List Value} {D : va_G} {ws : va_W} {tys : List (ClassId × FieldType)} (q0 : Nat) (hP : va_P D clS ws H) (hK : va_K D clS tys s) (hN : nst s) (hc : clS[ci]? = some (C, T, N)) (he : ws[q0]? = some (b, .inr (ci, fs))) : PreV s H C b (rPre (.ref b :: As) D ws tys) As := ⟨rPre_blind, va_recv hK hP hc he, fun U hU hW => ⟨rfl, by rw [hU]; exact hP, va_K.moved hW.alike hK, va_Nw.warmM hW hN⟩⟩
-- contracts of methods that change cells of their world and make none
def wPre (av : List Value) (D : va_G) (ws : va_W) (tys : List (ClassId × FieldType)) (sz : Nat) : Array Value → State → Prop := va_Pc av (fun U => U.heap.size = sz ∧ va_P D clS ws U.heap ∧ va_K D clS tys U ∧ nst U ∧ va_D (fun _ => True) ws)
def wQ (o : Option Value) (D : va_G) (ws' : va_W) (A : Nat → Prop) : Array Value → State → Outcome → State → Prop := fun _ st oc t => oc = .returned o ∧ va_P D clS ws' t.heap ∧ va_F A st t
theorem wPre_blind {av : List Value} {D : va_G} {ws : va_W} {tys : List (ClassId × FieldType)} {sz : Nat} : FrameBlind (wPre av D ws tys sz) := fun a U g mk q => ⟨q.1, q.2.1, q.2.2.1, va_K.moved (u := U) (U := U.calling g mk a) (Vm.Alike.refl U.vm) q.2.2.2.1, va_Nw.same rfl rfl q.2.2.2.2.1, q.2.2.2.2.2⟩
theorem wPre_S {s : State} {H : Heap} {As : List Value} {D : va_G} {ws : va_W} {tys : List (ClassId × FieldType)} {A : Nat → Prop} (hP : va_P D clS ws H) (hD : va_D A ws) (hK : va_K D clS tys s) (hN : nst s) : PreS s H (wPre As D ws tys H.size) As := ⟨wPre_blind, fun U hU hW => ⟨rfl, by rw [hU], by rw [hU]; exact hP, va_K.moved hW.alike hK, va_Nw.warmM hW hN, hD.weaken (fun _ _ _ _ => trivial)⟩⟩
theorem wPre_V {s : State} {H : Heap} {b ci : Nat} {C : String} {T : u_T} {N : Nat} {fs : List Value} {As : List Value} {D : va_G} {ws : va_W} {tys : List (ClassId × FieldType)} {A : Nat → Prop} (q0 : Nat) (hP : va_P D clS ws H) (hD : va_D A ws) (hK : va_K D clS tys s) (hN : nst s) (hc : clS[ci]? = some (C, T, N)) (he : ws[q0]? = some (b, .inr (ci, fs))) : PreV s H C b (wPre (.ref b :: As) D ws tys H.size) As := ⟨wPre_blind, va_recv hK hP hc he, fun U hU hW => ⟨rfl, by rw [hU], by rw [hU]; exact hP, va_K.moved hW.alike hK, va_Nw.warmM hW hN, hD.weaken (fun _ _ _ _ => trivial)⟩⟩
/-- the cells' addresses alone say that they are apart -/
theorem hw_adr {A : Nat → Prop} {ws ws' : va_W} (h : ws'.map (fun q => q.1) = ws.map (fun q => q.1)) (hD : va_D A ws) : va_D A ws' := by
  have key : ∀ (k : Nat) (q : Nat × va_E), ws'[k]? = some q → ∃ q2, ws[k]? = some q2 ∧ q2.1 = q.1 := by
    intro k q hk
    have h1 : (ws'.map (fun q => q.1))[k]? = some q.1 := by rw [List.getElem?_map, hk]; rfl
    rw [h, List.getElem?_map] at h1
    cases h2 : ws[k]? with
    | none => rw [h2] at h1; cases h1
    | some q2 => rw [h2] at h1; exact ⟨q2, rfl, Option.some.inj h1⟩
  refine ⟨fun i j x y hi hj hxy => ?_, fun k q hk => ?_⟩
  · obtain ⟨p2, a1, a2⟩ := key i x hi
    obtain ⟨q2, b1, b2⟩ := key j y hj
    exact hD.1 i j p2 q2 a1 b1 (by rw [a2, b2, hxy])
  · obtain ⟨q2, b1, b2⟩ := key k q hk
    rw [← b2]
    exact hD.2 k q2 b1
/-- an array's contents are told by what stands below its length -/
theorem hw_cg {D : va_G} {cl : List vw_C} {ws ws' : va_W} {H : Heap} {a n q0 : Nat} {cA : ClassId} {f : Nat → Int32} (hP : va_P D cl ws H) (g : Nat → Int32) (ha : ws[q0]? = some (a, .inl (cA, n, .inl f))) (hg : ∀ j, j < n → f j = g j) (hw : ws.set q0 (a, .inl (cA, n, .inl g)) = ws') : va_P D cl ws' H := by
  subst hw
  intro k q hk
  by_cases hkq : k = q0
  · subst hkq
    rw [List.getElem?_set_self (List.getElem?_eq_some_iff.mp ha).1] at hk
    cases hk
    have h1 := hP k _ ha
    show H[a]? = some (vp_cell cA (n, .inl g))
    have h2 : vp_cell cA (n, .inl f) = vp_cell cA (n, .inl g) := by
      rw [vp_cell_i, vp_cell_i]
      unfold arrV
      congr 1
      apply congrArg
      funext j
      show Value.int (f j.val) = Value.int (g j.val)
      rw [hg j.val j.isLt]
    rw [← h2]
    exact h1
  · rw [List.getElem?_set_ne (fun h => hkq h.symm)] at hk
    exact hP k q hk
theorem hw_cgz {D : va_G} {cl : List vw_C} {ws ws' : va_W} {H : Heap} {a n q0 : Nat} {cA : ClassId} {f : Nat → Bool} (hP : va_P D cl ws H) (g : Nat → Bool) (ha : ws[q0]? = some (a, .inl (cA, n, .inl (fun j => bI (f j))))) (hg : ∀ j, j < n → f j = g j) (hw : ws.set q0 (a, .inl (cA, n, .inl (fun j => bI (g j)))) = ws') : va_P D cl ws' H :=
  hw_cg hP (fun j => bI (g j)) ha (fun j hj => by rw [hg j hj]) hw
theorem hw_cgn {D : va_G} {cl : List vw_C} {ws ws' : va_W} {H : Heap} {a n q0 : Nat} {cA : ClassId} {f : Nat → Nat} (hP : va_P D cl ws H) (g : Nat → Nat) (ha : ws[q0]? = some (a, .inl (cA, n, .inl (fun j => nI (f j))))) (hg : ∀ j, j < n → f j = g j) (hw : ws.set q0 (a, .inl (cA, n, .inl (fun j => nI (g j)))) = ws') : va_P D cl ws' H :=
  hw_cg hP (fun j => nI (g j)) ha (fun j hj => by rw [hg j hj]) hw
theorem nI_upd (f : Nat → Nat) (k x : Nat) : upd (fun j => nI (f j)) k (nI x) = fun j => nI (va_up f k x j) := by
  funext j
  by_cases h : j = k <;> simp [upd, va_up, h]
/-- two class numbers of one array type are one -/
theorem hw_uq {D : va_G} {cl : List vw_C} {tys : List (ClassId × FieldType)} {U : State} (hK : va_K D cl tys U) {i j : Nat} {c1 c2 : ClassId} (hi : tys[i]? = some (c1, .int)) (hj : tys[j]? = some (c2, .int)) : c1 = c2 := by
  have a1 : U.vm.findClass ("[" ++ (FieldType.int).toString) = some c1 := (hK.2 i _ hi).2
  have a2 : U.vm.findClass ("[" ++ (FieldType.int).toString) = some c2 := (hK.2 j _ hj).2
  exact Option.some.inj (a1.symm.trans a2)
theorem hw_uqz {D : va_G} {cl : List vw_C} {tys : List (ClassId × FieldType)} {U : State} (hK : va_K D cl tys U) {i j : Nat} {c1 c2 : ClassId} (hi : tys[i]? = some (c1, .boolean)) (hj : tys[j]? = some (c2, .boolean)) : c1 = c2 := by
  have a1 : U.vm.findClass ("[" ++ (FieldType.boolean).toString) = some c1 := (hK.2 i _ hi).2
  have a2 : U.vm.findClass ("[" ++ (FieldType.boolean).toString) = some c2 := (hK.2 j _ hj).2
  exact Option.some.inj (a1.symm.trans a2)
section HW
variable {p : Program} {l : Launch} {e : Env} {R : Room} {s : State} {m : MethodId} {args : Array Value} {below : List Frame} {meth : Method} {c : Code} {H : Heap} {locs : List Loc} {cells slots : Nat} {Q : State → Prop}
variable {cc : ByteArray} {pc : Nat} {ls : Array Slot} {rest : List Value} {D : va_G} {cl : List vw_C} {A : Nat → Prop} {a : Nat} {tys : List (ClassId × FieldType)} {ws : va_W} {H0 : Heap}
theorem lv_nm {x y : Int32} (h : x = y) (k : W p l e R s m args below meth c H locs cells slots Q (F0 m pc ls (.int y :: rest))) : W p l e R s m args below meth c H locs cells slots Q (F0 m pc ls (.int x :: rest)) := by
  rw [h]; exact k
theorem na_iald (hexec : p.tables.exec = Jvm.exec) (hb : c.code = cc) (hK : va_K D cl tys s) (hP : va_P D cl ws H) (q0 t0 : Nat) {cA : ClassId} {n : Nat} {f : Nat → Int32} (ha : ws[q0]? = some (a, .inl (cA, n, .inl f))) (ht : tys[t0]? = some (cA, .int)) {j : Nat} (hj : j < n) (hn : n < 2 ^ 31) (hdg : decode cc pc = .ok (.iaload, 1))
    (kk : W p l e R s m args below meth c H locs cells slots Q (F0 m (pc + 1) ls (.int (f j) :: rest))) : W p l e R s m args below meth c H locs cells slots Q (F0 m pc ls (.int (nI j) :: .ref a :: rest)) := by
  refine va_iald hexec hb hK hP q0 t0 ha ht (vp_in_nI hj hn) hdg ?_
  rw [nI_clamp (by omega)]; exact kk
theorem na_zald (hexec : p.tables.exec = Jvm.exec) (hb : c.code = cc) (hK : va_K D cl tys s) (hP : va_P D cl ws H) (q0 t0 : Nat) {cA : ClassId} {n : Nat} {f : Nat → Bool} (ha : ws[q0]? = some (a, .inl (cA, n, .inl (fun j => bI (f j))))) (ht : tys[t0]? = some (cA, .boolean)) {j : Nat} (hj : j < n) (hn : n < 2 ^ 31) (hdg : decode cc pc = .ok (.baload, 1))
    (kk : W p l e R s m args below meth c H locs cells slots Q (F0 m (pc + 1) ls (.int (bI (f j)) :: rest))) : W p l e R s m args below meth c H locs cells slots Q (F0 m pc ls (.int (nI j) :: .ref a :: rest)) := by
  refine va_zald hexec hb hK hP q0 t0 ha ht (vp_in_nI hj hn) hdg ?_
  rw [nI_clamp (by omega)]; exact kk
theorem na_nald (hexec : p.tables.exec = Jvm.exec) (hb : c.code = cc) (hK : va_K D cl tys s) (hP : va_P D cl ws H) (q0 t0 : Nat) {cA : ClassId} {n : Nat} {f : Nat → Nat} (ha : ws[q0]? = some (a, .inl (cA, n, .inl (fun j => nI (f j))))) (ht : tys[t0]? = some (cA, .int)) {j : Nat} (hj : j < n) (hn : n < 2 ^ 31) (hdg : decode cc pc = .ok (.iaload, 1))
    (kk : W p l e R s m args below meth c H locs cells slots Q (F0 m (pc + 1) ls (.int (nI (f j)) :: rest))) : W p l e R s m args below meth c H locs cells slots Q (F0 m pc ls (.int (nI j) :: .ref a :: rest)) := by
  refine va_iald hexec hb hK hP q0 t0 ha ht (vp_in_nI hj hn) hdg ?_
  rw [nI_clamp (by omega)]; exact kk
theorem na_iast (hexec : p.tables.exec = Jvm.exec) (hb : c.code = cc) (hK : va_K D cl tys s) (hP : va_P D cl ws H) (hD : va_D A ws) (hS : va_S A H0 H locs) (q0 t0 : Nat) {cA : ClassId} {n : Nat} {f : Nat → Int32} (ha : ws[q0]? = some (a, .inl (cA, n, .inl f))) (ht : tys[t0]? = some (cA, .int)) {j : Nat} {x : Int32} (hj : j < n) (hn : n < 2 ^ 31) (hdg : decode cc pc = .ok (.iastore, 1))
    (kk : ∀ (H1 : Heap) (locs1 : List Loc), va_P D cl (ws.set q0 (a, .inl (cA, n, .inl (upd f j x)))) H1 → va_D A (ws.set q0 (a, .inl (cA, n, .inl (upd f j x)))) → va_S A H0 H1 locs1 → W p l e R s m args below meth c H1 locs1 cells slots Q (F0 m (pc + 1) ls rest)) : W p l e R s m args below meth c H locs cells slots Q (F0 m pc ls (.int x :: .int (nI j) :: .ref a :: rest)) := by
  refine va_iast hexec hb hK hP hD hS q0 t0 ha ht (vp_in_nI hj hn) hdg ?_
  rw [nI_clamp (by omega)]; exact kk
theorem na_zast (hexec : p.tables.exec = Jvm.exec) (hb : c.code = cc) (hK : va_K D cl tys s) (hP : va_P D cl ws H) (hD : va_D A ws) (hS : va_S A H0 H locs) (q0 t0 : Nat) {cA : ClassId} {n : Nat} {f : Nat → Bool} (ha : ws[q0]? = some (a, .inl (cA, n, .inl (fun j => bI (f j))))) (ht : tys[t0]? = some (cA, .boolean)) {j : Nat} {b : Bool} (hj : j < n) (hn : n < 2 ^ 31) (hdg : decode cc pc = .ok (.bastore, 1))
    (kk : ∀ (H1 : Heap) (locs1 : List Loc), va_P D cl (ws.set q0 (a, .inl (cA, n, .inl (fun i => bI (va_up f j b i))))) H1 → va_D A (ws.set q0 (a, .inl (cA, n, .inl (fun i => bI (va_up f j b i))))) → va_S A H0 H1 locs1 → W p l e R s m args below meth c H1 locs1 cells slots Q (F0 m (pc + 1) ls rest)) : W p l e R s m args below meth c H locs cells slots Q (F0 m pc ls (.int (bI b) :: .int (nI j) :: .ref a :: rest)) := by
  refine va_zast hexec hb hK hP hD hS q0 t0 ha ht (vp_in_nI hj hn) hdg ?_
  rw [nI_clamp (by omega), bI_vp, bI_upd]; exact kk
theorem na_nast (hexec : p.tables.exec = Jvm.exec) (hb : c.code = cc) (hK : va_K D cl tys s) (hP : va_P D cl ws H) (hD : va_D A ws) (hS : va_S A H0 H locs) (q0 t0 : Nat) {cA : ClassId} {n : Nat} {f : Nat → Nat} (ha : ws[q0]? = some (a, .inl (cA, n, .inl (fun j => nI (f j))))) (ht : tys[t0]? = some (cA, .int)) {j x : Nat} (hj : j < n) (hn : n < 2 ^ 31) (hdg : decode cc pc = .ok (.iastore, 1))
    (kk : ∀ (H1 : Heap) (locs1 : List Loc), va_P D cl (ws.set q0 (a, .inl (cA, n, .inl (fun i => nI (va_up f j x i))))) H1 → va_D A (ws.set q0 (a, .inl (cA, n, .inl (fun i => nI (va_up f j x i))))) → va_S A H0 H1 locs1 → W p l e R s m args below meth c H1 locs1 cells slots Q (F0 m (pc + 1) ls rest)) : W p l e R s m args below meth c H locs cells slots Q (F0 m pc ls (.int (nI x) :: .int (nI j) :: .ref a :: rest)) := by
  refine va_iast hexec hb hK hP hD hS q0 t0 ha ht (vp_in_nI hj hn) hdg ?_
  rw [nI_clamp (by omega), nI_upd]; exact kk
theorem hw_cr {g : JFrame} {mc ms : Nat} {Qa : State → Outcome → State → Prop} {free : Addr → Prop} (h : va_Run p l e R s m args below meth c H locs cells slots mc ms g rest Qa free) : CallRun p l e R s m args below meth c H locs cells slots mc ms g rest Qa free := by
  intro T hT X
  obtain ⟨v, st, t, T', L, h0, X', hL, e1, e2, hq, hg⟩ := h T hT X
  exact ⟨v, st, t, T', L, h0, X', hL, e1, hq, hg⟩
/-- a call that changes nothing -/
theorem hw_callR {r : Int32} {st0 : List Value} {av : Array Value} (hr : va_Run p l e R s m args below meth c H locs cells slots 0 0 (F0 m pc ls st0) rest (QcRead r av) (fun _ => False)) (kk : W p l e R s m args below meth c H locs cells slots Q (F0 m (pc + 3) ls (.int r :: rest))) : W p l e R s m args below meth c H locs cells slots Q (F0 m pc ls st0) := W.callR (hw_cr hr) kk
/-- a call that changes cells of the whole world -/
theorem hw_callW {o : Option Value} {ws' : va_W} {st0 : List Value} {av : Array Value} (hr : va_Run p l e R s m args below meth c H locs cells slots 0 0 (F0 m pc ls st0) rest (wQ o D ws' (va_A ws H.size) av) (va_A ws H.size)) (hD : va_D A ws) (hS : va_S A H0 H locs) (hA : ∀ q, H0.size ≤ q → A q) (hadr : ws'.map (fun q => q.1) = ws.map (fun q => q.1))
    (kk : ∀ (H1 : Heap) (locs1 : List Loc), va_P D clS ws' H1 → va_D A ws' → va_S A H0 H1 locs1 → W p l e R s m args below meth c H1 locs1 cells slots Q (F0 m (pc + 3) ls (o.toList ++ rest))) : W p l e R s m args below meth c H locs cells slots Q (F0 m pc ls st0) := by
  have hF : ∀ q, va_A ws H.size q → A q := by
    intro q h
    rcases h with ⟨k, e9, h⟩ | h
    · exact hD.2 k (q, e9) h
    · exact hA q (Nat.le_trans hS.1 h)
  intro T hT X
  obtain ⟨v, st, t, T', L, h0, X', hL, e1, e2, ⟨hv, hP1, hz, hk⟩, hg⟩ := hr T hT X
  cases hv
  rw [h0] at hz hk
  obtain ⟨t2, a1, b1⟩ := kk T'.heap (locs ++ L) (by rw [e1]; exact hP1) (hw_adr hadr hD)
    ⟨Nat.le_trans hS.1 (by rw [e1]; exact hz), fun q h1 h2 => by rw [e1, hk q (Nat.lt_of_lt_of_le h1 hS.1) (fun z => h2 (hF q z))]; exact hS.2.1 q h1 h2, fun q hq => by
      rcases List.mem_append.mp hq with h | h
      · exact hS.2.2 q h
      · exact hF _ (hL q h)⟩ T' rfl X'
  exact ⟨t2, hg t2 a1, b1⟩
/-- a call that changes cells of a part of the world: isC the callee's places, isR the others', pm the order behind it -/
theorem hw_call {o : Option Value} {wc wc' wr ws' : va_W} {st0 : List Value} {av : Array Value} (hr : va_Run p l e R s m args below meth c H locs cells slots 0 0 (F0 m pc ls st0) rest (wQ o D wc' (va_A wc H.size) av) (va_A wc H.size)) (hP : va_P D clS ws H) (hD : va_D A ws) (hS : va_S A H0 H locs) (hA : ∀ q, H0.size ≤ q → A q)
    (isC isR pm : List Nat) (hC : isC.map (fun i => ws[i]?) = wc.map some) (hR : isR.map (fun i => ws[i]?) = wr.map some) (hnC : va_nd isC = true) (hnR : va_nd isR = true) (hdis : ∀ i ∈ isR, i ∉ isC) (hc' : wc'.map (fun q => q.1) = wc.map (fun q => q.1)) (hpm : pm.filterMap (fun i => (wr ++ wc')[i]?) = ws') (hadr : ws'.map (fun q => q.1) = ws.map (fun q => q.1))
    (kk : ∀ (H1 : Heap) (locs1 : List Loc), va_P D clS ws' H1 → va_D A ws' → va_S A H0 H1 locs1 → W p l e R s m args below meth c H1 locs1 cells slots Q (F0 m (pc + 3) ls (o.toList ++ rest))) : W p l e R s m args below meth c H locs cells slots Q (F0 m pc ls st0) := by
  have hF := va_free (wc := wc) hD hS hA isC hC
  intro T hT X
  obtain ⟨v, st, t, T', L, h0, X', hL, e1, e2, ⟨hv, hP1, hz, hk⟩, hg⟩ := hr T hT X
  cases hv
  rw [h0] at hz hk
  have hD1 : va_D (va_A wc H.size) wc' := hw_adr hc' (hD.sub isC hnC hC).self
  have hj := va_join (wr := wr) (w1 := wc') (H1 := T'.heap) hP hD isC isR hC hR hnR hdis (fun q h1 h2 => by rw [e1]; exact hk q h1 h2) hF (by rw [e1]; exact hP1) hD1
  obtain ⟨t2, a1, b1⟩ := kk T'.heap (locs ++ L) (hj.1.sub pm hpm) (hw_adr hadr hD)
    ⟨Nat.le_trans hS.1 (by rw [e1]; exact hz), fun q h1 h2 => by rw [e1, hk q (Nat.lt_of_lt_of_le h1 hS.1) (fun z => h2 (hF q z))]; exact hS.2.1 q h1 h2, fun q hq => by
      rcases List.mem_append.mp hq with h | h
      · exact hS.2.2 q h
      · exact hF _ (hL q h)⟩ T' rfl X'
  exact ⟨t2, hg t2 a1, b1⟩
end HW
end
section
/-! Numbers: the bits of an int as a number; shifts and masks; ranges. -/
/-- the bits of an int as a number -/
def uN (x : Int32) : Nat := x.toBitVec.toNat
theorem uN_lt (x : Int32) : uN x < 2 ^ 32 := x.toBitVec.isLt
theorem uN_nI {n : Nat} (h : n < 2 ^ 32) : uN (nI n) = n := pk_tn h
theorem nI_uN (x : Int32) : nI (uN x) = x := by
  apply Int32.toBitVec_inj.mp
  apply BitVec.eq_of_toNat_eq
  exact pk_tn (uN_lt x)
theorem uN_inj {x y : Int32} (h : uN x = uN y) : x = y := by rw [← nI_uN x, ← nI_uN y, h]
theorem uN_or (x y : Int32) : uN (x ||| y) = uN x ||| uN y := by
  unfold uN
  rw [Int32.toBitVec_or, BitVec.toNat_or]
theorem uN_and (x y : Int32) : uN (x &&& y) = uN x &&& uN y := by
  unfold uN
  rw [Int32.toBitVec_and, BitVec.toNat_and]
theorem uN_0 : uN 0 = 0 := rfl
theorem nI_z {q : Nat} (h : q < 2 ^ 32) : nI q = 0 ↔ q = 0 := by
  constructor
  · intro e
    have e2 := congrArg uN e
    rw [uN_nI h] at e2
    exact e2
  · intro e
    subst e
    rfl
theorem nI_i {a b : Nat} (ha : a < 2 ^ 32) (hb : b < 2 ^ 32) (e : nI a = nI b) : a = b := by
  have e2 := congrArg uN e
  rwa [uN_nI ha, uN_nI hb] at e2
/-- in a range -/
theorem hw_in {x : Int32} {n : Nat} (hn : n < 2 ^ 31) (h0 : ¬ x < 0) (h1 : ¬ nI n ≤ x) : uN x < n := by
  obtain ⟨j, hj, rfl⟩ := nI_of h0
  rw [uN_nI (by omega)]
  rw [nI_leI hn hj] at h1
  omega
theorem hw_neg {x : Int32} (h : x < 0) : 2 ^ 31 ≤ uN x := by
  apply Nat.le_of_not_lt
  intro h1
  rw [← nI_uN x] at h
  exact nI_pos h1 h
theorem hw_big {x : Int32} {n : Nat} (hn : n < 2 ^ 31) (h : nI n ≤ x) : ¬ uN x < n := by
  intro h1
  rw [← nI_uN x] at h
  exact nI_ge h1 hn h
theorem hw_pos {x : Int32} {n : Nat} (hn : n < 2 ^ 31) (h : uN x < n) : ¬ x < 0 ∧ x < nI n := by
  rw [← nI_uN x]
  exact ⟨nI_pos (by omega), nI_lt h hn⟩
-- shifts and bits
theorem hw_uc : ∀ d, d < 32 → (((nI d).toUInt32 &&& Int32.toUInt32 31).toBitVec % 32).toNat = d := by decide +kernel
theorem hw_ushr (x : Int32) {d : Nat} (hd : d < 32) : (x.toUInt32 >>> ((nI d).toUInt32 &&& Int32.toUInt32 31)).toInt32 = nI (uN x / 2 ^ d) := by
  apply uN_inj
  rw [uN_nI (Nat.lt_of_le_of_lt (Nat.div_le_self _ _) (uN_lt x))]
  exact pk_ushr x (nI d) d (hw_uc d hd)
theorem bI_nI (b : Bool) : bI b = nI b.toNat := by cases b <;> rfl
theorem hw_tb (x d : Nat) : nI (x / 2 ^ d % 2) = bI (x.testBit d) := by
  rw [bI_nI, Nat.toNat_testBit]
/-- bit d by >>> -/
theorem hw_ubit (x : Int32) {d : Nat} (hd : d < 32) : (x.toUInt32 >>> ((nI d).toUInt32 &&& Int32.toUInt32 31)).toInt32 &&& nI 1 = bI ((uN x).testBit d) := by
  rw [hw_ushr x hd, pk_andN (Nat.lt_of_le_of_lt (Nat.div_le_self _ _) (uN_lt x)) (m := nI 1) 1 (by decide), ← hw_tb]
/-- bit d by >> -/
theorem hw_sbit (x : Int32) {d : Nat} (hd : d < 32) : (x >>> (nI d &&& 31)) &&& nI 1 = bI ((uN x).testBit d) := by
  rw [pk_and (x >>> (nI d &&& 31)) (m := nI 1) 1 (by decide)]
  have h1 : (x >>> (nI d &&& 31)).toBitVec = x.toBitVec.sshiftRight d := by
    rw [Int32.toBitVec_shiftRight, BitVec.sshiftRight', hw_cnt d hd]
  rw [h1]
  have h2 : (x.toBitVec.sshiftRight d).toNat.testBit 0 = (uN x).testBit d := by
    show (x.toBitVec.sshiftRight d).getLsbD 0 = x.toBitVec.getLsbD d
    rw [BitVec.getLsbD_sshiftRight]
    simp [hd]
  rw [bI_nI, ← h2, Nat.toNat_testBit]
  simp
theorem hw_shr {a d : Nat} (ha : a < 2 ^ 31) (hd : d < 32) : nI a >>> (nI d &&& 31) = nI (a / 2 ^ d) := pk_shrN ha _ d (hw_cnt d hd)
theorem hw_bshl (b : Bool) {d : Nat} (hd : d < 32) : bI b <<< (nI d &&& 31) = nI (b.toNat * 2 ^ d) := by
  rw [bI_nI]
  have h : 2 ^ d ≤ 2 ^ 31 := Nat.pow_le_pow_right (by decide) (by omega)
  exact pk_shlN _ d (hw_cnt d hd) (by cases b <;> simp <;> omega)
/-- 2^d by a shift, d up to 31 -/
theorem hw_shl1' {d : Nat} (hd : d < 32) : nI 1 <<< (nI d &&& 31) = nI (2 ^ d) := by
  have h := hw_bshl true hd
  rw [bI_nI] at h
  simpa using h
/-- both are sets of n variables -/
theorem hw_sets {x y n : Nat} : (x ||| y) / 2 ^ n = 0 ↔ x < 2 ^ n ∧ y < 2 ^ n := by
  rw [Nat.div_eq_zero_iff_lt (Nat.two_pow_pos n)]
  constructor
  · intro h
    refine ⟨Nat.lt_of_le_of_lt Nat.left_le_or h, ?_⟩
    rw [Nat.or_comm] at h
    exact Nat.lt_of_le_of_lt Nat.left_le_or h
  · intro h
    exact Nat.or_lt_two_pow h.1 h.2
/-- a number or a bit that it hasn't -/
theorem hw_orb {x d : Nat} (h : x.testBit d = false) (b : Bool) : x ||| b.toNat * 2 ^ d = x + b.toNat * 2 ^ d := by
  cases b with
  | false => simp
  | true =>
    show x ||| 1 * 2 ^ d = x + 1 * 2 ^ d
    rw [Nat.one_mul]
    have e : x = 2 ^ (d + 1) * (x / 2 ^ (d + 1)) + x % 2 ^ d := by
      have h1 := Nat.div_add_mod x (2 ^ (d + 1))
      have h2 : x % 2 ^ (d + 1) = x % 2 ^ d := by
        rw [Nat.mod_pow_succ, ← Nat.toNat_testBit, h]
        simp
      rw [h2] at h1
      exact h1.symm
    have hr : x % 2 ^ d < 2 ^ d := Nat.mod_lt _ (Nat.two_pow_pos d)
    generalize x % 2 ^ d = r at e hr
    generalize x / 2 ^ (d + 1) = q at e
    subst e
    have hp : 2 ^ (d + 1) = 2 ^ d + 2 ^ d := Nat.two_pow_succ d
    rw [Nat.two_pow_add_eq_or_of_lt (by omega), Nat.or_assoc, Nat.or_two_pow_eq_add_of_lt hr, ← Nat.two_pow_add_eq_or_of_lt (by omega), ← Nat.two_pow_add_eq_or_of_lt (by omega)]
    omega
theorem bI_le (b : Bool) : b.toNat ≤ 1 := by cases b <;> decide
end
section
/-! The game, as numbers: who wins, the positions of the reference, lines of values. Nothing of the machine. -/
def sd_C (a x y : Bool) : Bool := if a = true then (x && y) else (x || y)
/-- Eve wins: k variables are left, d are set, v their values -/
def sd_R (A : Nat) (S : Nat → Bool) : Nat → Nat → Nat → Bool
  | 0, _, v => S v
  | k + 1, d, v => sd_C (A.testBit d) (sd_R A S k (d + 1) v) (sd_R A S k (d + 1) (v + 2 ^ d))
def sd_E (n A : Nat) (S : Nat → Bool) (d v : Nat) : Bool := sd_R A S (n - d) d v
theorem sd_E_n (n A : Nat) (S : Nat → Bool) (v : Nat) : sd_E n A S n v = S v := by
  unfold sd_E
  rw [Nat.sub_self]
  rfl
theorem sd_E_s {n A : Nat} {S : Nat → Bool} {d : Nat} (v : Nat) (h : d < n) : sd_E n A S d v = sd_C (A.testBit d) (sd_E n A S (d + 1) v) (sd_E n A S (d + 1) (v + 2 ^ d)) := by
  unfold sd_E
  rw [show n - d = (n - (d + 1)) + 1 by omega]
  rfl
theorem sd_R_cg {A : Nat} {S S' : Nat → Bool} : ∀ (k d v : Nat), (∀ w, w < 2 ^ (d + k) → S w = S' w) → v < 2 ^ d → sd_R A S k d v = sd_R A S' k d v
  | 0, d, v, h, hv => h v hv
  | k + 1, d, v, h, hv => by
    have h2 : 2 ^ (d + 1) = 2 ^ d + 2 ^ d := Nat.two_pow_succ d
    have h' : ∀ w, w < 2 ^ (d + 1 + k) → S w = S' w := fun w hw => h w (by rw [show d + (k + 1) = d + 1 + k by omega]; exact hw)
    show sd_C _ _ _ = sd_C _ _ _
    rw [sd_R_cg k (d + 1) v h' (by omega), sd_R_cg k (d + 1) (v + 2 ^ d) h' (by omega)]
theorem sd_E_cg {n A d v : Nat} {S S' : Nat → Bool} (h : ∀ w, w < 2 ^ n → S w = S' w) (hd : d ≤ n) (hv : v < 2 ^ d) : sd_E n A S d v = sd_E n A S' d v :=
  sd_R_cg _ _ _ (by rw [show d + (n - d) = n by omega]; exact h) hv
/-- the class's row of winners, by 2^d + v -/
def sd_ew (n A : Nat) (S : Nat → Bool) (j : Nat) : Bool := if j = 0 then false else sd_E n A S (Nat.log2 j) (j - 2 ^ Nat.log2 j)
theorem sd_log {d v : Nat} (h : v < 2 ^ d) : Nat.log2 (2 ^ d + v) = d := by
  have h0 := Nat.two_pow_pos d
  exact (Nat.log2_eq_iff (by omega)).mpr ⟨by omega, by rw [Nat.two_pow_succ]; omega⟩
theorem sd_ew_at {n A : Nat} {S : Nat → Bool} {d v : Nat} (h : v < 2 ^ d) : sd_ew n A S (2 ^ d + v) = sd_E n A S d v := by
  have h0 := Nat.two_pow_pos d
  unfold sd_ew
  rw [if_neg (by omega), sd_log h, Nat.add_sub_cancel_left]
theorem sd_split {n j : Nat} (h0 : j ≠ 0) (h : j < 2 * 2 ^ n) : ∃ d v, d ≤ n ∧ v < 2 ^ d ∧ j = 2 ^ d + v := by
  have h1 := Nat.log2_self_le h0
  have h2 := @Nat.lt_log2_self j
  rw [Nat.two_pow_succ] at h2
  refine ⟨Nat.log2 j, j - 2 ^ Nat.log2 j, ?_, by omega, by omega⟩
  have h3 := (Nat.log2_lt (k := n + 1) h0).mpr (by rw [Nat.two_pow_succ]; omega)
  omega
theorem sd_ew_cg {n A : Nat} {S S' : Nat → Bool} (h : ∀ w, w < 2 ^ n → S w = S' w) {j : Nat} (hj : j < 2 * 2 ^ n) : sd_ew n A S j = sd_ew n A S' j := by
  by_cases h0 : j = 0
  · subst h0
    rfl
  · obtain ⟨d, v, h1, h2, rfl⟩ := sd_split h0 hj
    rw [sd_ew_at h2, sd_ew_at h2, sd_E_cg h h1 h2]
/-- the reference's position behind the first d values of v -/
def sd_pos : Nat → Nat → Nat
  | 0, _ => 1
  | d + 1, v => 2 * sd_pos d v + (v.testBit d).toNat
theorem sd_pos_b (d v : Nat) : 2 ^ d ≤ sd_pos d v ∧ sd_pos d v < 2 * 2 ^ d := by
  induction d with
  | zero => exact ⟨Nat.le_refl 1, show 1 < 2 * 2 ^ 0 by decide⟩
  | succ d ih =>
    have h1 := bI_le (v.testBit d)
    have h2 := Nat.two_pow_succ d
    show 2 ^ (d + 1) ≤ 2 * sd_pos d v + (v.testBit d).toNat ∧ 2 * sd_pos d v + (v.testBit d).toNat < 2 * 2 ^ (d + 1)
    omega
theorem sd_pos_cg {v w : Nat} : ∀ d, (∀ i, i < d → v.testBit i = w.testBit i) → sd_pos d v = sd_pos d w
  | 0, _ => rfl
  | d + 1, h => by
    show 2 * sd_pos d v + (v.testBit d).toNat = 2 * sd_pos d w + (w.testBit d).toNat
    rw [sd_pos_cg d (fun i hi => h i (by omega)), h d (by omega)]
theorem sd_pos_0 {d v : Nat} (h : v < 2 ^ d) : sd_pos (d + 1) v = 2 * sd_pos d v := by
  show 2 * sd_pos d v + (v.testBit d).toNat = _
  rw [Nat.testBit_lt_two_pow h]
  rfl
theorem sd_pos_1 {d v : Nat} (h : v < 2 ^ d) : sd_pos (d + 1) (v + 2 ^ d) = 2 * sd_pos d v + 1 := by
  show 2 * sd_pos d (v + 2 ^ d) + ((v + 2 ^ d).testBit d).toNat = _
  rw [Nat.add_comm v, sd_pos_cg d (fun i hi => Nat.testBit_two_pow_add_gt hi v), Nat.testBit_two_pow_add_eq, Nat.testBit_lt_two_pow h]
  rfl
theorem sd_pos_dv (d v : Nat) : ∀ i, sd_pos (d + i) v / 2 ^ i = sd_pos d v
  | 0 => Nat.div_one _
  | i + 1 => by
    have h1 : sd_pos (d + i + 1) v / 2 = sd_pos (d + i) v := by
      have h2 := bI_le (v.testBit (d + i))
      show (2 * sd_pos (d + i) v + (v.testBit (d + i)).toNat) / 2 = _
      omega
    rw [Nat.pow_succ', ← Nat.div_div_eq_div_mul]
    show sd_pos (d + i + 1) v / 2 / 2 ^ i = _
    rw [h1]
    exact sd_pos_dv d v i
theorem sd_pos_tb {n k : Nat} (v : Nat) (h : k < n) : (sd_pos n v).testBit (n - 1 - k) = v.testBit k := by
  have h1 := sd_pos_dv (k + 1) v (n - 1 - k)
  rw [show k + 1 + (n - 1 - k) = n by omega] at h1
  have h2 := Nat.testBit_div_two_pow (n := n - 1 - k) (sd_pos n v) 0
  rw [Nat.zero_add, h1, Nat.testBit_zero] at h2
  rw [← h2]
  show decide ((2 * sd_pos k v + (v.testBit k).toNat) % 2 = 1) = v.testBit k
  cases v.testBit k
  · exact decide_eq_false (by show ¬ (2 * sd_pos k v + 0) % 2 = 1; omega)
  · exact decide_eq_true (by show (2 * sd_pos k v + 1) % 2 = 1; omega)
/-- the values that the reference reads off an end, after k steps -/
def sd_on (n e : Nat) : Nat → Nat
  | 0 => 0
  | k + 1 => sd_on n e k + (e.testBit (n - 1 - k)).toNat * 2 ^ k
theorem sd_on_lt (n e : Nat) : ∀ k, sd_on n e k < 2 ^ k
  | 0 => by show 0 < 1; decide
  | k + 1 => by
    have h1 := sd_on_lt n e k
    have h2 := Nat.two_pow_succ k
    show sd_on n e k + (e.testBit (n - 1 - k)).toNat * 2 ^ k < 2 ^ (k + 1)
    cases e.testBit (n - 1 - k)
    · show sd_on n e k + 0 * 2 ^ k < _; omega
    · show sd_on n e k + 1 * 2 ^ k < _; omega
theorem sd_on_pos {n v : Nat} : ∀ k, k ≤ n → sd_on n (sd_pos n v) k = v % 2 ^ k
  | 0, _ => (Nat.mod_one v).symm
  | k + 1, h => by
    show sd_on n (sd_pos n v) k + ((sd_pos n v).testBit (n - 1 - k)).toNat * 2 ^ k = _
    rw [sd_on_pos k (by omega), sd_pos_tb v (by omega), Nat.toNat_testBit, Nat.mod_pow_succ, Nat.mul_comm (2 ^ k)]
/-- the reference's winner: k variables left, at position j -/
def sd_M (n A : Nat) (S : Nat → Bool) : Nat → Nat → Bool
  | 0, j => S (sd_on n j n)
  | k + 1, j => sd_C (A.testBit (n - 1 - k)) (sd_M n A S k (2 * j)) (sd_M n A S k (2 * j + 1))
theorem sd_M_R {n A : Nat} {S : Nat → Bool} : ∀ k v, k ≤ n → v < 2 ^ (n - k) → sd_M n A S k (sd_pos (n - k) v) = sd_R A S k (n - k) v
  | 0, v, _, hv => by
    show S (sd_on n (sd_pos n v) n) = S v
    rw [sd_on_pos n (Nat.le_refl n), Nat.mod_eq_of_lt (show v < 2 ^ n from hv)]
  | k + 1, v, h, hv => by
    have h1 := sd_M_R (n := n) (A := A) (S := S) k v (by omega)
    have h2 := sd_M_R (n := n) (A := A) (S := S) k (v + 2 ^ (n - (k + 1))) (by omega)
    have e2 : n - 1 - k = n - (k + 1) := by omega
    have e1 : n - k = n - (k + 1) + 1 := by omega
    rw [e1] at h1 h2
    generalize n - (k + 1) = d at hv h1 h2 e2 ⊢
    have hp := Nat.two_pow_succ d
    have h1 := h1 (by omega)
    have h2 := h2 (by omega)
    rw [sd_pos_0 hv] at h1
    rw [sd_pos_1 hv] at h2
    show sd_C (A.testBit (n - 1 - k)) (sd_M n A S k (2 * sd_pos d v)) (sd_M n A S k (2 * sd_pos d v + 1)) = sd_C (A.testBit d) (sd_R A S k (d + 1) v) (sd_R A S k (d + 1) (v + 2 ^ d))
    rw [e2, h1, h2]
/-- the reference's row of winners -/
def sd_wn (n A : Nat) (S : Nat → Bool) (j : Nat) : Bool := if j = 0 ∨ 2 * 2 ^ n ≤ j then false else sd_M n A S (n - Nat.log2 j) j
theorem sd_lg {v j : Nat} (h1 : 2 ^ v ≤ j) (h2 : j < 2 * 2 ^ v) : Nat.log2 j = v := by
  have h0 := Nat.two_pow_pos v
  exact (Nat.log2_eq_iff (by omega)).mpr ⟨h1, by rw [Nat.two_pow_succ]; omega⟩
theorem sd_wn_in {n A : Nat} {S : Nat → Bool} {v j : Nat} (hv : v ≤ n) (h1 : 2 ^ v ≤ j) (h2 : j < 2 * 2 ^ v) : sd_wn n A S j = sd_M n A S (n - v) j := by
  have h0 := Nat.two_pow_pos v
  have h3 : 2 ^ v ≤ 2 ^ n := Nat.pow_le_pow_right (by decide) hv
  unfold sd_wn
  rw [if_neg (by omega), sd_lg h1 h2]
theorem sd_wn_at {n A : Nat} {S : Nat → Bool} {d v : Nat} (hd : d ≤ n) (hv : v < 2 ^ d) : sd_wn n A S (sd_pos d v) = sd_E n A S d v := by
  have hb := sd_pos_b d v
  have h1 := sd_M_R (n := n) (A := A) (S := S) (n - d) v (by omega)
  rw [show n - (n - d) = d by omega] at h1
  rw [sd_wn_in hd hb.1 hb.2, h1 hv]
  rfl
theorem sd_wn_leaf {n A : Nat} {S : Nat → Bool} {j : Nat} (h1 : 2 ^ n ≤ j) (h2 : j < 2 * 2 ^ n) : sd_wn n A S j = S (sd_on n j n) := by
  rw [sd_wn_in (Nat.le_refl n) h1 h2, Nat.sub_self]
  rfl
theorem sd_wn_node {n A : Nat} {S : Nat → Bool} {v j : Nat} (hv : v < n) (h1 : 2 ^ v ≤ j) (h2 : j < 2 * 2 ^ v) : sd_wn n A S j = sd_C (A.testBit v) (sd_wn n A S (2 * j)) (sd_wn n A S (2 * j + 1)) := by
  have hp := Nat.two_pow_succ v
  rw [sd_wn_in (Nat.le_of_lt hv) h1 h2, sd_wn_in (v := v + 1) hv (by omega) (by omega), sd_wn_in (v := v + 1) hv (by omega) (by omega)]
  rw [show n - v = (n - (v + 1)) + 1 by omega]
  show sd_C (A.testBit (n - 1 - (n - (v + 1)))) _ _ = _
  rw [show n - 1 - (n - (v + 1)) = v by omega]
/-- how many of Adam's variables stand before v -/
def sd_ct (A : Nat) : Nat → Nat
  | 0 => 0
  | v + 1 => sd_ct A v + (A.testBit v).toNat
theorem sd_ct_mono (A : Nat) {v w : Nat} (h : v ≤ w) : sd_ct A v ≤ sd_ct A w := by
  induction h with
  | refl => exact Nat.le_refl _
  | step _ ih => exact Nat.le_trans ih (Nat.le_add_right _ _)
theorem sd_ct_le (A : Nat) : ∀ v, sd_ct A v ≤ v
  | 0 => Nat.le_refl 0
  | v + 1 => Nat.add_le_add (sd_ct_le A v) (bI_le _)
/-- a number bit by bit: bit d is f d (the bits below) -/
def sd_ac (f : Nat → Nat → Bool) : Nat → Nat
  | 0 => 0
  | d + 1 => sd_ac f d + (f d (sd_ac f d)).toNat * 2 ^ d
theorem sd_ac_lt (f : Nat → Nat → Bool) : ∀ d, sd_ac f d < 2 ^ d
  | 0 => by show 0 < 1; decide
  | d + 1 => by
    have h1 := sd_ac_lt f d
    have h2 := Nat.two_pow_succ d
    show sd_ac f d + (f d (sd_ac f d)).toNat * 2 ^ d < 2 ^ (d + 1)
    cases f d (sd_ac f d)
    · show sd_ac f d + 0 * 2 ^ d < _; omega
    · show sd_ac f d + 1 * 2 ^ d < _; omega
theorem sd_ac_tb (f : Nat → Nat → Bool) {d : Nat} : ∀ m, d < m → (sd_ac f m).testBit d = f d (sd_ac f d)
  | 0, h => by omega
  | m + 1, h => by
    show (sd_ac f m + (f m (sd_ac f m)).toNat * 2 ^ m).testBit d = _
    rw [Nat.add_comm, Nat.mul_comm, Nat.testBit_two_pow_mul_add _ (sd_ac_lt f m)]
    by_cases hd : d < m
    · rw [if_pos hd]
      exact sd_ac_tb f m hd
    · obtain rfl : d = m := by omega
      rw [if_neg hd, Nat.sub_self]
      cases f d (sd_ac f d) <;> rfl
theorem sd_ac_hi (f : Nat → Nat → Bool) {d m : Nat} (h : m ≤ d) : (sd_ac f m).testBit d = false := Nat.testBit_lt_two_pow (Nat.lt_of_lt_of_le (sd_ac_lt f m) (Nat.pow_le_pow_right (by decide) h))
theorem sd_ac_cg {f g : Nat → Nat → Bool} : ∀ m, (∀ d, d < m → f d (sd_ac f d) = g d (sd_ac f d)) → sd_ac f m = sd_ac g m
  | 0, _ => rfl
  | m + 1, h => by
    have h1 := sd_ac_cg m (fun d hd => h d (by omega))
    show sd_ac f m + (f m (sd_ac f m)).toNat * 2 ^ m = sd_ac g m + (g m (sd_ac g m)).toNat * 2 ^ m
    rw [h m (by omega), h1]
theorem sd_pos_ac (f : Nat → Nat → Bool) (d : Nat) : sd_pos (d + 1) (sd_ac f (d + 1)) = 2 * sd_pos d (sd_ac f d) + (f d (sd_ac f d)).toNat := by
  show 2 * sd_pos d (sd_ac f (d + 1)) + ((sd_ac f (d + 1)).testBit d).toNat = _
  rw [sd_ac_tb f (d + 1) (by omega), sd_pos_cg (v := sd_ac f (d + 1)) (w := sd_ac f d) d (fun i hi => by rw [sd_ac_tb f (d + 1) (by omega), sd_ac_tb f d hi])]
theorem sd_pos_acm (f : Nat → Nat → Bool) {d m : Nat} (h : d ≤ m) : sd_pos d (sd_ac f m) = sd_pos d (sd_ac f d) :=
  sd_pos_cg d (fun i hi => by rw [sd_ac_tb f m (by omega), sd_ac_tb f d hi])
/-- a clause fails at v -/
def sd_fl (y z v : Nat) : Bool := (v &&& y == 0) && (v &&& z == z)
/-- how many of the first k clauses fail at v -/
def sd_br (Y Z : Nat → Nat) : Nat → Nat → Nat
  | 0, _ => 0
  | k + 1, v => sd_br Y Z k v + (sd_fl (Y k) (Z k) v).toNat
theorem sd_br_cg {Y Z Y' Z' : Nat → Nat} {v : Nat} : ∀ k, (∀ j, j < k → Y j = Y' j ∧ Z j = Z' j) → sd_br Y Z k v = sd_br Y' Z' k v
  | 0, _ => rfl
  | k + 1, h => by
    show sd_br Y Z k v + (sd_fl (Y k) (Z k) v).toNat = sd_br Y' Z' k v + (sd_fl (Y' k) (Z' k) v).toNat
    rw [sd_br_cg k (fun j hj => h j (by omega)), (h k (by omega)).1, (h k (by omega)).2]
theorem sd_br_le (Y Z : Nat → Nat) (v : Nat) : ∀ k, sd_br Y Z k v ≤ k
  | 0 => Nat.le_refl 0
  | k + 1 => Nat.add_le_add (sd_br_le Y Z v k) (bI_le _)
/-- one clause more -/
theorem sd_br_up (Y Z : Nat → Nat) (k y z v : Nat) : sd_br (va_up Y k y) (va_up Z k z) (k + 1) v = sd_br Y Z k v + (sd_fl y z v).toNat := by
  show sd_br (va_up Y k y) (va_up Z k z) k v + (sd_fl (va_up Y k y k) (va_up Z k z k) v).toNat = _
  rw [va_up_self, va_up_self, sd_br_cg k (fun j hj => ⟨va_up_ne Y y (by omega), va_up_ne Z z (by omega)⟩)]
/-- clause i taken out of c + 1 -/
def sd_sh (Y : Nat → Nat) (i c : Nat) : Nat → Nat := fun j => if i ≤ j ∧ j < c then Y (j + 1) else Y j
theorem sd_br_sh (Y Z : Nat → Nat) {i : Nat} (v : Nat) : ∀ c, i ≤ c → sd_br Y Z (c + 1) v = sd_br (sd_sh Y i c) (sd_sh Z i c) c v + (sd_fl (Y i) (Z i) v).toNat
  | 0, h => by
    obtain rfl : i = 0 := by omega
    rfl
  | c + 1, h => by
    by_cases hi : i = c + 1
    · subst hi
      show sd_br Y Z (c + 1) v + _ = _
      rw [sd_br_cg (Y' := sd_sh Y (c + 1) (c + 1)) (Z' := sd_sh Z (c + 1) (c + 1)) (c + 1) (fun j hj => ⟨(if_neg (by omega)).symm, (if_neg (by omega)).symm⟩)]
    · have ih := sd_br_sh Y Z (i := i) v c (by omega)
      show sd_br Y Z (c + 1) v + (sd_fl (Y (c + 1)) (Z (c + 1)) v).toNat = sd_br (sd_sh Y i (c + 1)) (sd_sh Z i (c + 1)) c v + (sd_fl (sd_sh Y i (c + 1) c) (sd_sh Z i (c + 1) c) v).toNat + (sd_fl (Y i) (Z i) v).toNat
      have e1 : sd_sh Y i (c + 1) c = Y (c + 1) := if_pos (by omega)
      have e2 : sd_sh Z i (c + 1) c = Z (c + 1) := if_pos (by omega)
      have e3 : sd_br (sd_sh Y i (c + 1)) (sd_sh Z i (c + 1)) c v = sd_br (sd_sh Y i c) (sd_sh Z i c) c v := by
        apply sd_br_cg
        intro j hj
        by_cases hij : i ≤ j
        · exact ⟨by unfold sd_sh; rw [if_pos (by omega), if_pos (by omega)], by unfold sd_sh; rw [if_pos (by omega), if_pos (by omega)]⟩
        · exact ⟨by unfold sd_sh; rw [if_neg (by omega), if_neg (by omega)], by unfold sd_sh; rw [if_neg (by omega), if_neg (by omega)]⟩
      rw [e1, e2, e3, ih]
      omega
/-- the best move -/
def sd_bm (n A : Nat) (S : Nat → Bool) (d v : Nat) : Bool := !(sd_E n A S (d + 1) v == !A.testBit d) && (sd_E n A S (d + 1) (v + 2 ^ d) == !A.testBit d)
/-- how many below k -/
def sd_cn (f : Nat → Bool) : Nat → Nat
  | 0 => 0
  | k + 1 => sd_cn f k + (f k).toNat
theorem sd_cn_cg {f g : Nat → Bool} : ∀ k, (∀ j, j < k → f j = g j) → sd_cn f k = sd_cn g k
  | 0, _ => rfl
  | k + 1, h => by
    show sd_cn f k + _ = sd_cn g k + _
    rw [sd_cn_cg k (fun j hj => h j (by omega)), h k (by omega)]
theorem sd_cn_le (f : Nat → Bool) : ∀ k, sd_cn f k ≤ k
  | 0 => Nat.le_refl 0
  | k + 1 => Nat.add_le_add (sd_cn_le f k) (bI_le _)
theorem sd_cn_add (f : Nat → Bool) (a : Nat) : ∀ b, sd_cn f (a + b) = sd_cn f a + sd_cn (fun j => f (a + j)) b
  | 0 => rfl
  | b + 1 => by
    show sd_cn f (a + b) + (f (a + b)).toNat = sd_cn f a + (sd_cn (fun j => f (a + j)) b + (f (a + b)).toNat)
    rw [sd_cn_add f a b]
    omega
theorem sd_cn_two (f : Nat → Bool) : ∀ k, sd_cn f (2 * k) = sd_cn (fun j => f (2 * j)) k + sd_cn (fun j => f (2 * j + 1)) k
  | 0 => rfl
  | k + 1 => by
    show sd_cn f (2 * k) + (f (2 * k)).toNat + (f (2 * k + 1)).toNat = (sd_cn _ k + (f (2 * k)).toNat) + (sd_cn _ k + (f (2 * k + 1)).toNat)
    rw [sd_cn_two f k]
    omega
/-- the ends under a position are the values that go on from it -/
theorem sd_cn_pos {n : Nat} {S : Nat → Bool} : ∀ k v, k ≤ n → v < 2 ^ (n - k) → sd_cn (fun j => S (sd_on n (sd_pos (n - k) v * 2 ^ k + j) n)) (2 ^ k) = sd_cn (fun w => S (v + 2 ^ (n - k) * w)) (2 ^ k)
  | 0, v, _, hv => by
    show 0 + (S (sd_on n (sd_pos n v * 1 + 0) n)).toNat = 0 + (S (v + 2 ^ n * 0)).toNat
    rw [Nat.mul_one, Nat.add_zero, sd_on_pos n (Nat.le_refl n), Nat.mod_eq_of_lt (show v < 2 ^ n from hv), Nat.mul_zero, Nat.add_zero]
  | k + 1, v, h, hv => by
    have h1 := sd_cn_pos (n := n) (S := S) k v (by omega)
    have h2 := sd_cn_pos (n := n) (S := S) k (v + 2 ^ (n - (k + 1))) (by omega)
    rw [show n - k = n - (k + 1) + 1 by omega] at h1 h2
    generalize n - (k + 1) = d at hv h1 h2 ⊢
    have hp := Nat.two_pow_succ d
    have hk := Nat.two_pow_succ k
    have h1 := h1 (by omega)
    have h2 := h2 (by omega)
    rw [sd_pos_0 hv] at h1
    rw [sd_pos_1 hv] at h2
    have e1 : sd_cn (fun j => S (sd_on n (sd_pos d v * 2 ^ (k + 1) + j) n)) (2 ^ (k + 1)) = sd_cn (fun j => S (sd_on n (2 * sd_pos d v * 2 ^ k + j) n)) (2 ^ k) + sd_cn (fun j => S (sd_on n ((2 * sd_pos d v + 1) * 2 ^ k + j) n)) (2 ^ k) := by
      rw [hk, sd_cn_add]
      have a1 : sd_pos d v * (2 ^ k + 2 ^ k) = 2 * sd_pos d v * 2 ^ k := by
        rw [← Nat.two_mul, ← Nat.mul_assoc, Nat.mul_comm (sd_pos d v) 2]
      have a2 : ∀ j, sd_pos d v * (2 ^ k + 2 ^ k) + (2 ^ k + j) = (2 * sd_pos d v + 1) * 2 ^ k + j := by
        intro j
        rw [a1, Nat.add_mul, Nat.one_mul]
        omega
      rw [a1]
      congr 1
      apply sd_cn_cg
      intro j _
      show S (sd_on n (2 * sd_pos d v * 2 ^ k + (2 ^ k + j)) n) = _
      rw [← a1, a2 j]
    have e2 : sd_cn (fun w => S (v + 2 ^ d * w)) (2 ^ (k + 1)) = sd_cn (fun w => S (v + 2 ^ (d + 1) * w)) (2 ^ k) + sd_cn (fun w => S (v + 2 ^ d + 2 ^ (d + 1) * w)) (2 ^ k) := by
      rw [Nat.pow_succ', sd_cn_two]
      congr 1
      · apply sd_cn_cg
        intro j _
        show S (v + 2 ^ d * (2 * j)) = _
        rw [← Nat.mul_assoc, Nat.mul_comm (2 ^ d) 2, ← Nat.pow_succ']
      · apply sd_cn_cg
        intro j _
        show S (v + 2 ^ d * (2 * j + 1)) = _
        rw [Nat.mul_add, Nat.mul_one, ← Nat.mul_assoc, Nat.mul_comm (2 ^ d) 2, ← Nat.pow_succ', Nat.add_comm (2 ^ (d + 1) * j), Nat.add_assoc]
    rw [e1, e2, h1, h2]
theorem sd_cn_all {n : Nat} {S : Nat → Bool} : sd_cn (fun j => S (sd_on n (2 ^ n + j) n)) (2 ^ n) = sd_cn S (2 ^ n) := by
  have h := sd_cn_pos (n := n) (S := S) n 0 (Nat.le_refl n) (by rw [Nat.sub_self]; decide)
  rw [Nat.sub_self] at h
  have e1 : ∀ j, sd_pos 0 0 * 2 ^ n + j = 2 ^ n + j := fun j => by show 1 * 2 ^ n + j = _; rw [Nat.one_mul]
  have e2 : ∀ w, 0 + 2 ^ 0 * w = w := fun w => by rw [Nat.zero_add, Nat.pow_zero, Nat.one_mul]
  simp only [e1, e2] at h
  exact h
end
section
/-! The game, as numbers: clauses of the reference, lines of sums, learned tables, gaps, Adam's first five. -/
/-- all clauses hold, as the reference reads it -/
def sd_al (Y Z : Nat → Nat) (sk : Nat → Bool) (g : Bool) (v : Nat) : Nat → Bool
  | 0 => g
  | k + 1 => sd_al Y Z sk g v k && (sk k || !sd_fl (Y k) (Z k) v)
theorem sd_z (a : Nat) (b : Bool) : (a + b.toNat == 0) = ((a == 0) && !b) := by
  cases b
  · show (a + 0 == 0) = ((a == 0) && true)
    rw [Nat.add_zero, Bool.and_true]
  · show (a + 1 == 0) = ((a == 0) && false)
    rw [Bool.and_false]
    exact beq_false_of_ne (by omega)
theorem sd_al_g (Y Z : Nat → Nat) (sk : Nat → Bool) (g : Bool) (v : Nat) : ∀ k, sd_al Y Z sk g v k = (g && sd_al Y Z sk true v k)
  | 0 => (Bool.and_true g).symm
  | k + 1 => by
    show (sd_al Y Z sk g v k && _) = (g && (sd_al Y Z sk true v k && _))
    rw [sd_al_g Y Z sk g v k, Bool.and_assoc]
theorem sd_al_n (Y Z : Nat → Nat) (sk : Nat → Bool) (v : Nat) : ∀ k, (∀ j, j < k → sk j = false) → sd_al Y Z sk true v k = (sd_br Y Z k v == 0)
  | 0, _ => rfl
  | k + 1, h => by
    show (sd_al Y Z sk true v k && (sk k || !sd_fl (Y k) (Z k) v)) = (sd_br Y Z k v + (sd_fl (Y k) (Z k) v).toNat == 0)
    rw [sd_al_n Y Z sk v k (fun j hj => h j (by omega)), h k (by omega), Bool.false_or, sd_z]
theorem sd_al_m (Y Z : Nat → Nat) (y z v k : Nat) : sd_al Y Z (fun _ => false) (!sd_fl y z v) v k = (sd_br (va_up Y k y) (va_up Z k z) (k + 1) v == 0) := by
  rw [sd_al_g, sd_al_n _ _ _ _ k (fun _ _ => rfl), sd_br_up, sd_z, Bool.and_comm]
theorem sd_al_s (Y Z : Nat → Nat) {i : Nat} (v : Nat) : ∀ c, i ≤ c → sd_al Y Z (fun k => k == i) true v (c + 1) = (sd_br (sd_sh Y i c) (sd_sh Z i c) c v == 0)
  | 0, h => by
    obtain rfl : i = 0 := by omega
    rfl
  | c + 1, h => by
    show (sd_al Y Z (fun k => k == i) true v (c + 1) && ((c + 1 == i) || !sd_fl (Y (c + 1)) (Z (c + 1)) v)) = _
    by_cases hi : i = c + 1
    · subst hi
      rw [sd_al_n Y Z _ v (c + 1) (fun j hj => beq_false_of_ne (by omega)), beq_self_eq_true, Bool.true_or, Bool.and_true]
      rw [sd_br_cg (Y' := sd_sh Y (c + 1) (c + 1)) (Z' := sd_sh Z (c + 1) (c + 1)) (c + 1) (fun j hj => ⟨(if_neg (by omega)).symm, (if_neg (by omega)).symm⟩)]
    · have e0 : (c + 1 == i) = false := beq_false_of_ne (fun h2 => hi h2.symm)
      have e1 : sd_sh Y i (c + 1) c = Y (c + 1) := if_pos (by omega)
      have e2 : sd_sh Z i (c + 1) c = Z (c + 1) := if_pos (by omega)
      have e3 : sd_br (sd_sh Y i (c + 1)) (sd_sh Z i (c + 1)) c v = sd_br (sd_sh Y i c) (sd_sh Z i c) c v := by
        apply sd_br_cg
        intro j hj
        by_cases hij : i ≤ j
        · exact ⟨by unfold sd_sh; rw [if_pos (by omega), if_pos (by omega)], by unfold sd_sh; rw [if_pos (by omega), if_pos (by omega)]⟩
        · exact ⟨by unfold sd_sh; rw [if_neg (by omega), if_neg (by omega)], by unfold sd_sh; rw [if_neg (by omega), if_neg (by omega)]⟩
      show _ = (sd_br (sd_sh Y i (c + 1)) (sd_sh Z i (c + 1)) c v + (sd_fl (sd_sh Y i (c + 1) c) (sd_sh Z i (c + 1) c) v).toNat == 0)
      rw [e0, Bool.false_or, sd_al_s Y Z v c (by omega), e1, e2, e3, sd_z]
/-- the line of a sum: Adam's values are its bits, Eve's are g's -/
def sd_li (A : Nat) (g : Nat → Nat → Bool) (sum : Nat) : Nat → Nat → Bool := fun d x => if A.testBit d = true then sum.testBit (sd_ct A d) else g d x
theorem sd_li_a {A : Nat} {g : Nat → Nat → Bool} {sum d x : Nat} (h : A.testBit d = true) : sd_li A g sum d x = sum.testBit (sd_ct A d) := if_pos h
theorem sd_li_e {A : Nat} {g : Nat → Nat → Bool} {sum d x : Nat} (h : A.testBit d = false) : sd_li A g sum d x = g d x := if_neg (by rw [h]; decide)
theorem sd_ct_a {A w d : Nat} (h : A.testBit w = true) (hw : w < d) : sd_ct A w < sd_ct A d := by
  have h1 := sd_ct_mono A (v := w + 1) (w := d) hw
  have h2 : sd_ct A (w + 1) = sd_ct A w + 1 := by
    show sd_ct A w + (A.testBit w).toNat = _
    rw [h]
    rfl
  omega
theorem sd_tbm {s t m i : Nat} (h : s % 2 ^ m = t % 2 ^ m) (hi : i < m) : s.testBit i = t.testBit i := by
  have h1 := Nat.testBit_mod_two_pow s m i
  have h2 := Nat.testBit_mod_two_pow t m i
  rw [h, h2] at h1
  simpa [hi] using h1.symm
theorem sd_li_cg {A : Nat} {g : Nat → Nat → Bool} {s t d : Nat} (h : s % 2 ^ sd_ct A d = t % 2 ^ sd_ct A d) : sd_ac (sd_li A g s) d = sd_ac (sd_li A g t) d := by
  apply sd_ac_cg
  intro w hw
  by_cases ha : A.testBit w = true
  · rw [sd_li_a ha, sd_li_a ha]
    exact sd_tbm h (sd_ct_a ha hw)
  · have ha : A.testBit w = false := by simpa using ha
    rw [sd_li_e ha, sd_li_e ha]
/-- what is learned for variable v at index i -/
def sd_lb (n A : Nat) (S : Nat → Bool) (v i : Nat) : Bool := sd_bm n A S v (sd_ac (sd_li A (sd_bm n A S) i) v)
/-- a table of k bits -/
def sd_ob (g : Nat → Bool) (k : Nat) : Nat := sd_ac (fun i _ => g i) k
theorem sd_ob_s (g : Nat → Bool) (k : Nat) : sd_ob g (k + 1) = sd_ob g k + (g k).toNat * 2 ^ k := rfl
theorem sd_ob_lt (g : Nat → Bool) (k : Nat) : sd_ob g k < 2 ^ k := sd_ac_lt _ k
theorem sd_ob_tb (g : Nat → Bool) {i k : Nat} (h : i < k) : (sd_ob g k).testBit i = g i := sd_ac_tb _ k h
theorem sd_ob_hi (g : Nat → Bool) {i k : Nat} (h : k ≤ i) : (sd_ob g k).testBit i = false := sd_ac_hi _ h
/-- one bit more -/
theorem sd_ob_or (g : Nat → Bool) (k : Nat) : sd_ob g k ||| (g k).toNat * 2 ^ k = sd_ob g (k + 1) := by
  rw [hw_orb (sd_ob_hi g (Nat.le_refl k))]
  rfl
/-- a bit that is there already -/
theorem sd_ob_in (g : Nat → Bool) {i k : Nat} (h : i < k) : sd_ob g k ||| (g i).toNat * 2 ^ i = sd_ob g k := by
  apply Nat.eq_of_testBit_eq
  intro j
  rw [Nat.testBit_or, Nat.testBit_mul_two_pow]
  by_cases hj : j = i
  · subst hj
    rw [sd_ob_tb g h]
    cases g j <;> simp
  · have e : (decide (i ≤ j) && (g i).toNat.testBit (j - i)) = false := by
      by_cases hij : i ≤ j
      · have h1 : (g i).toNat < 2 ^ (j - i) := by
          have h2 := bI_le (g i)
          have h3 : 2 ^ 1 ≤ 2 ^ (j - i) := Nat.pow_le_pow_right (by decide) (by omega)
          omega
        rw [Nat.testBit_lt_two_pow h1, Bool.and_false]
      · rw [decide_eq_false hij, Bool.false_and]
    rw [e, Bool.or_false]
def sd_lt (n A : Nat) (S : Nat → Bool) (v : Nat) : Nat := sd_ob (sd_lb n A S v) (2 ^ sd_ct A v)
/-- the tables behind learn -/
def sd_T (n A : Nat) (S : Nat → Bool) (T : Nat → Int32) : Nat → Int32 := fun v => if v < n then (if A.testBit v = true then 0 else nI (sd_lt n A S v)) else T v
/-- the line of the claims -/
def sd_cl (A : Nat) (T : Nat → Int32) (sum : Nat) : Nat → Nat → Bool := sd_li A (fun d _ => (uN (T d)).testBit (sum % 2 ^ sd_ct A d)) sum
theorem sd_p32 {A n v : Nat} (h5 : sd_ct A n ≤ 5) (hv : v ≤ n) : 2 ^ sd_ct A v ≤ 32 := by
  have h1 := sd_ct_mono A hv
  exact Nat.pow_le_pow_right (n := 2) (by decide) (show sd_ct A v ≤ 5 by omega)
theorem sd_lt_32 {n A v : Nat} {S : Nat → Bool} (h5 : sd_ct A n ≤ 5) (hv : v ≤ n) : sd_lt n A S v < 2 ^ 32 :=
  Nat.lt_of_lt_of_le (sd_ob_lt _ _) (Nat.pow_le_pow_right (by decide) (sd_p32 h5 hv))
/-- learned tables lead along the best moves -/
theorem sd_cl_learn {n A : Nat} {S : Nat → Bool} {T : Nat → Int32} (h5 : sd_ct A n ≤ 5) (sum : Nat) {m : Nat} (hm : m ≤ n) (hT : ∀ d, d < m → A.testBit d = false → T d = nI (sd_lt n A S d)) : sd_ac (sd_cl A T sum) m = sd_ac (sd_li A (sd_bm n A S) sum) m := by
  symm
  apply sd_ac_cg
  intro d hd
  by_cases ha : A.testBit d = true
  · unfold sd_cl
    rw [sd_li_a ha, sd_li_a ha]
  · have ha : A.testBit d = false := by simpa using ha
    unfold sd_cl
    rw [sd_li_e ha, sd_li_e ha, hT d hd ha, uN_nI (sd_lt_32 h5 (by omega))]
    unfold sd_lt
    rw [sd_ob_tb _ (Nat.mod_lt _ (Nat.two_pow_pos _))]
    unfold sd_lb
    rw [sd_li_cg (s := sum % 2 ^ sd_ct A d) (t := sum) (Nat.mod_mod _ _)]
/-- the first place where f fails, of the k from i on -/
def sd_gp (f : Nat → Bool) : Nat → Nat → Int32
  | 0, _ => -1
  | k + 1, i => if f i = true then sd_gp f k (i + 1) else nI i
theorem sd_gp_cg {f g : Nat → Bool} : ∀ k i, (∀ j, i ≤ j → j < i + k → f j = g j) → sd_gp f k i = sd_gp g k i
  | 0, _, _ => rfl
  | k + 1, i, h => by
    show (if f i = true then sd_gp f k (i + 1) else nI i) = (if g i = true then sd_gp g k (i + 1) else nI i)
    rw [h i (Nat.le_refl i) (by omega), sd_gp_cg k (i + 1) (fun j h1 h2 => h j (by omega) (by omega))]
/-- Adam's first five below v: the set, and how many -/
def sd_kk (x : Nat) : Nat → Nat × Nat
  | 0 => (0, 0)
  | v + 1 => if x.testBit v = true ∧ (sd_kk x v).2 < 5 then ((sd_kk x v).1 + 2 ^ v, (sd_kk x v).2 + 1) else sd_kk x v
theorem sd_kk_t {x v : Nat} (h : x.testBit v = true) (h2 : (sd_kk x v).2 < 5) : sd_kk x (v + 1) = ((sd_kk x v).1 + 2 ^ v, (sd_kk x v).2 + 1) := if_pos ⟨h, h2⟩
theorem sd_kk_f {x v : Nat} (h : ¬ (x.testBit v = true ∧ (sd_kk x v).2 < 5)) : sd_kk x (v + 1) = sd_kk x v := if_neg h
theorem sd_kk_lt (x : Nat) : ∀ v, (sd_kk x v).1 < 2 ^ v
  | 0 => by show 0 < 1; decide
  | v + 1 => by
    have h1 := sd_kk_lt x v
    have h2 := Nat.two_pow_succ v
    by_cases h : x.testBit v = true ∧ (sd_kk x v).2 < 5
    · rw [sd_kk_t h.1 h.2]
      show (sd_kk x v).1 + 2 ^ v < _
      omega
    · rw [sd_kk_f h]
      omega
theorem sd_kk_5 (x : Nat) : ∀ v, (sd_kk x v).2 ≤ 5
  | 0 => by show 0 ≤ 5; decide
  | v + 1 => by
    have h1 := sd_kk_5 x v
    by_cases h : x.testBit v = true ∧ (sd_kk x v).2 < 5
    · rw [sd_kk_t h.1 h.2]
      show (sd_kk x v).2 + 1 ≤ 5
      omega
    · rw [sd_kk_f h]
      omega
theorem sd_kk_le (x : Nat) : ∀ v, (sd_kk x v).2 ≤ v
  | 0 => Nat.le_refl 0
  | v + 1 => by
    have h1 := sd_kk_le x v
    by_cases h : x.testBit v = true ∧ (sd_kk x v).2 < 5
    · rw [sd_kk_t h.1 h.2]
      show (sd_kk x v).2 + 1 ≤ v + 1
      omega
    · rw [sd_kk_f h]
      omega
theorem sd_kk_cg {x y : Nat} : ∀ v, (∀ i, i < v → x.testBit i = y.testBit i) → sd_kk x v = sd_kk y v
  | 0, _ => rfl
  | v + 1, h => by
    have h1 := sd_kk_cg v (fun i hi => h i (by omega))
    show (if x.testBit v = true ∧ (sd_kk x v).2 < 5 then ((sd_kk x v).1 + 2 ^ v, (sd_kk x v).2 + 1) else sd_kk x v) = _
    rw [h v (by omega), h1]
    rfl
/-- behind the last variable, or with five taken, nothing comes -/
theorem sd_kk_end {x n : Nat} (h : ∀ i, n ≤ i → x.testBit i = false ∨ 5 ≤ (sd_kk x n).2) : ∀ k, sd_kk x (n + k) = sd_kk x n
  | 0 => rfl
  | k + 1 => by
    have h1 := sd_kk_end h k
    show sd_kk x (n + k + 1) = _
    rw [sd_kk_f, h1]
    rw [h1]
    intro h2
    rcases h (n + k) (by omega) with h3 | h3
    · rw [h3] at h2
      exact absurd h2.1 (by decide)
    · omega
theorem sd_ct_cg {A B : Nat} : ∀ v, (∀ i, i < v → A.testBit i = B.testBit i) → sd_ct A v = sd_ct B v
  | 0, _ => rfl
  | v + 1, h => by
    show sd_ct A v + _ = sd_ct B v + _
    rw [sd_ct_cg v (fun i hi => h i (by omega)), h v (by omega)]
theorem sd_kk_ct (x : Nat) : ∀ v, sd_ct (sd_kk x v).1 v = (sd_kk x v).2
  | 0 => rfl
  | v + 1 => by
    have h1 := sd_kk_ct x v
    have hl := sd_kk_lt x v
    by_cases h : x.testBit v = true ∧ (sd_kk x v).2 < 5
    · rw [sd_kk_t h.1 h.2]
      show sd_ct ((sd_kk x v).1 + 2 ^ v) v + (((sd_kk x v).1 + 2 ^ v).testBit v).toNat = (sd_kk x v).2 + 1
      rw [Nat.add_comm (sd_kk x v).1, Nat.testBit_two_pow_add_eq, Nat.testBit_lt_two_pow hl, sd_ct_cg (B := (sd_kk x v).1) v (fun i hi => Nat.testBit_two_pow_add_gt hi _), h1]
      rfl
    · rw [sd_kk_f h]
      show sd_ct (sd_kk x v).1 v + ((sd_kk x v).1.testBit v).toNat = (sd_kk x v).2
      rw [Nat.testBit_lt_two_pow hl, h1]
      rfl
theorem sd_A5 (x n : Nat) : sd_ct (sd_kk x n).1 n ≤ 5 := by
  rw [sd_kk_ct]
  exact sd_kk_5 x n
end
