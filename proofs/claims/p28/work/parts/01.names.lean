/-- a private method of a class that the tables say can be made, by its rows of tables_1 -/
def lw_okq (q : MethodName × Nat) : Prop := (q.1.cls ≠ "java/lang/invoke/MethodHandle" ∧ q.1.cls ≠ "java/lang/invoke/VarHandle") ∧ Cond.instantiable q.1.cls q.2 ∈ tables_1 ∧ Cond.privateMethod q.1 ∈ tables_1 ∧ Cond.instanceMethod q.1 ∈ tables_1
theorem lw_p0 : lw_okq (⟨"CommitteeBallots$State", "sumFor", "(I)I"⟩, 6) := ⟨⟨by decide +kernel, by decide +kernel⟩, List.mem_of_getElem? (i := 21) (by decide +kernel), List.mem_of_getElem? (i := 372) (by decide +kernel), List.mem_of_getElem? (i := 373) (by decide +kernel)⟩
theorem lw_p1 : lw_okq (⟨"CommitteeBallots$State", "isCarriedBy", "([I)Z"⟩, 6) := ⟨⟨by decide +kernel, by decide +kernel⟩, List.mem_of_getElem? (i := 21) (by decide +kernel), List.mem_of_getElem? (i := 380) (by decide +kernel), List.mem_of_getElem? (i := 381) (by decide +kernel)⟩
theorem lw_p2 : lw_okq (⟨"CommitteeBallots$Comments", "isAhead", "(IILCommitteeBallots$Members;)Z"⟩, 10) := ⟨⟨by decide +kernel, by decide +kernel⟩, List.mem_of_getElem? (i := 136) (by decide +kernel), List.mem_of_getElem? (i := 462) (by decide +kernel), List.mem_of_getElem? (i := 463) (by decide +kernel)⟩
theorem lw_p3 : lw_okq (⟨"CommitteeBallots$State", "bringEdition", "()V"⟩, 6) := ⟨⟨by decide +kernel, by decide +kernel⟩, List.mem_of_getElem? (i := 21) (by decide +kernel), List.mem_of_getElem? (i := 560) (by decide +kernel), List.mem_of_getElem? (i := 561) (by decide +kernel)⟩
theorem lw_p4 : lw_okq (⟨"CommitteeBallots", "firstFault", "()I"⟩, 3) := ⟨⟨by decide +kernel, by decide +kernel⟩, List.mem_of_getElem? (i := 13) (by decide +kernel), List.mem_of_getElem? (i := 595) (by decide +kernel), List.mem_of_getElem? (i := 596) (by decide +kernel)⟩
theorem lw_p5 : lw_okq (⟨"CommitteeBallots$Text", "digitsAt", "(II)I"⟩, 7) := ⟨⟨by decide +kernel, by decide +kernel⟩, List.mem_of_getElem? (i := 239) (by decide +kernel), List.mem_of_getElem? (i := 611) (by decide +kernel), List.mem_of_getElem? (i := 612) (by decide +kernel)⟩
theorem lw_p6 : lw_okq (⟨"CommitteeBallots$Text", "signAt", "(I)C"⟩, 7) := ⟨⟨by decide +kernel, by decide +kernel⟩, List.mem_of_getElem? (i := 239) (by decide +kernel), List.mem_of_getElem? (i := 615) (by decide +kernel), List.mem_of_getElem? (i := 616) (by decide +kernel)⟩
theorem lw_p7 : lw_okq (⟨"CommitteeBallots$Text", "numberAt", "(II)I"⟩, 7) := ⟨⟨by decide +kernel, by decide +kernel⟩, List.mem_of_getElem? (i := 239) (by decide +kernel), List.mem_of_getElem? (i := 619) (by decide +kernel), List.mem_of_getElem? (i := 620) (by decide +kernel)⟩
def lw_privs_1 : List (MethodName × Nat) := [(⟨"CommitteeBallots$State", "sumFor", "(I)I"⟩, 6), (⟨"CommitteeBallots$State", "isCarriedBy", "([I)Z"⟩, 6), (⟨"CommitteeBallots$Comments", "isAhead", "(IILCommitteeBallots$Members;)Z"⟩, 10), (⟨"CommitteeBallots$State", "bringEdition", "()V"⟩, 6), (⟨"CommitteeBallots", "firstFault", "()I"⟩, 3), (⟨"CommitteeBallots$Text", "digitsAt", "(II)I"⟩, 7), (⟨"CommitteeBallots$Text", "signAt", "(I)C"⟩, 7), (⟨"CommitteeBallots$Text", "numberAt", "(II)I"⟩, 7)]
theorem lw_r1 : ∀ q ∈ lw_privs_1, lw_okq q := List.forall_mem_cons.mpr ⟨lw_p0, List.forall_mem_cons.mpr ⟨lw_p1, List.forall_mem_cons.mpr ⟨lw_p2, List.forall_mem_cons.mpr ⟨lw_p3, List.forall_mem_cons.mpr ⟨lw_p4, List.forall_mem_cons.mpr ⟨lw_p5, List.forall_mem_cons.mpr ⟨lw_p6, List.forall_mem_cons.mpr ⟨lw_p7, fun _ h => absurd h List.not_mem_nil⟩⟩⟩⟩⟩⟩⟩⟩
def lw_privs : List (MethodName × Nat) := lw_privs_1
def lw_tbl : List Cond := k2_sels lw_privs ++ tables_1
theorem lw_privs_ok : ∀ q ∈ lw_privs, lw_okq q := lw_r1
def RX0 : String := "CommitteeBallots$Ballot"
def TX0 : u_T := fun k => match k with
  | 0 => ("CommitteeBallots$Ballot", "sums", "[I", true)
  | 1 => ("CommitteeBallots$Ballot", "isOpen", "Z", false)
  | 2 => ("CommitteeBallots$Ballot", "broughtEdition", "Z", false)
  | 3 => ("CommitteeBallots$Ballot", "number", "I", false)
  | _ => ("CommitteeBallots$Ballot", "endDay", "I", false)
def tyX0 : Nat → FieldType := fun k => match k with
  | 0 => .array .int
  | 1 => .boolean
  | 2 => .boolean
  | 3 => .int
  | _ => .int
abbrev wsX00 : List Cond := u_ws RX0 TX0 5
theorem nmX0 : ∀ a, a < 5 → ∀ b, b < 5 → a ≠ b → (TX0 a).2.1 ≠ (TX0 b).2.1 := by decide +kernel
theorem tyX0_ok : ∀ k, k < 5 → parseFieldDescriptor (TX0 k).2.2.1 = some (tyX0 k) := by decide +kernel
abbrev cX0_init : ByteArray := prog_2_method_1_code
def yX0_init : MethodName := ⟨RX0, "<init>", "()V"⟩
abbrev cX0_copyFrom : ByteArray := prog_2_method_2_code
def yX0_copyFrom : MethodName := ⟨RX0, "copyFrom", "(LCommitteeBallots$Ballot;)V"⟩
def RX1 : String := "CommitteeBallots$Comments"
def TX1 : u_T := fun k => match k with
  | 0 => ("CommitteeBallots$Comments", "member", "[I", true)
  | 1 => ("CommitteeBallots$Comments", "place", "[I", true)
  | 2 => ("CommitteeBallots$Comments", "kind", "[I", true)
  | 3 => ("CommitteeBallots$Comments", "proposed", "[I", true)
  | 4 => ("CommitteeBallots$Comments", "standing", "[I", true)
  | 5 => ("CommitteeBallots$Comments", "day", "[I", true)
  | 6 => ("CommitteeBallots$Comments", "gave", "[I", true)
  | 7 => ("CommitteeBallots$Comments", "turn", "[I", true)
  | 8 => ("CommitteeBallots$Comments", "size", "I", false)
  | _ => ("CommitteeBallots$Comments", "turns", "I", false)
def tyX1 : Nat → FieldType := fun k => match k with
  | 0 => .array .int
  | 1 => .array .int
  | 2 => .array .int
  | 3 => .array .int
  | 4 => .array .int
  | 5 => .array .int
  | 6 => .array .int
  | 7 => .array .int
  | 8 => .int
  | _ => .int
abbrev wsX10 : List Cond := u_ws RX1 TX1 10
theorem nmX1 : ∀ a, a < 10 → ∀ b, b < 10 → a ≠ b → (TX1 a).2.1 ≠ (TX1 b).2.1 := by decide +kernel
theorem tyX1_ok : ∀ k, k < 10 → parseFieldDescriptor (TX1 k).2.2.1 = some (tyX1 k) := by decide +kernel
abbrev cX1_init : ByteArray := prog_3_method_1_code
def yX1_init : MethodName := ⟨RX1, "<init>", "()V"⟩
abbrev cX1_copyFrom : ByteArray := prog_3_method_2_code
def yX1_copyFrom : MethodName := ⟨RX1, "copyFrom", "(LCommitteeBallots$Comments;)V"⟩
abbrev cX1_has : ByteArray := prog_3_method_3_code
def yX1_has : MethodName := ⟨RX1, "has", "(I)Z"⟩
abbrev cX1_isResolved : ByteArray := prog_3_method_4_code
def yX1_isResolved : MethodName := ⟨RX1, "isResolved", "(I)Z"⟩
abbrev cX1_gaveValue : ByteArray := prog_3_method_5_code
def yX1_gaveValue : MethodName := ⟨RX1, "gaveValue", "(I)Z"⟩
abbrev cX1_append : ByteArray := prog_3_method_6_code
def yX1_append : MethodName := ⟨RX1, "append", "(IIII)I"⟩
abbrev cX1_makeAllPending : ByteArray := prog_3_method_7_code
def yX1_makeAllPending : MethodName := ⟨RX1, "makeAllPending", "()V"⟩
abbrev cX1_pending : ByteArray := prog_3_method_8_code
def yX1_pending : MethodName := ⟨RX1, "pending", "()I"⟩
abbrev cX1_numberOf : ByteArray := prog_3_method_9_code
def yX1_numberOf : MethodName := ⟨RX1, "numberOf", "(I)I"⟩
abbrev cX1_hasTechnicalOf : ByteArray := prog_3_method_10_code
def yX1_hasTechnicalOf : MethodName := ⟨RX1, "hasTechnicalOf", "(I)Z"⟩
abbrev cX1_firstPending : ByteArray := prog_3_method_11_code
def yX1_firstPending : MethodName := ⟨RX1, "firstPending", "(LCommitteeBallots$Members;)I"⟩
abbrev cX1_isAhead : ByteArray := prog_3_method_12_code
def yX1_isAhead : MethodName := ⟨RX1, "isAhead", "(IILCommitteeBallots$Members;)Z"⟩
abbrev cX1_resolveAs : ByteArray := prog_3_method_13_code
def yX1_resolveAs : MethodName := ⟨RX1, "resolveAs", "(IIII)V"⟩
abbrev cX1_firstBehind : ByteArray := prog_3_method_14_code
def yX1_firstBehind : MethodName := ⟨RX1, "firstBehind", "(II)I"⟩
def RX2 : String := "CommitteeBallots$Document"
def TX2 : u_T := fun k => match k with
  | 0 => ("CommitteeBallots$Document", "number", "[I", true)
  | 1 => ("CommitteeBallots$Document", "present", "[I", true)
  | 2 => ("CommitteeBallots$Document", "atOpening", "[I", true)
  | 3 => ("CommitteeBallots$Document", "ballotBehind", "[I", true)
  | 4 => ("CommitteeBallots$Document", "inEdition", "[I", true)
  | 5 => ("CommitteeBallots$Document", "commentBehind", "[I", true)
  | 6 => ("CommitteeBallots$Document", "size", "I", false)
  | _ => ("CommitteeBallots$Document", "edition", "I", false)
def tyX2 : Nat → FieldType := fun k => match k with
  | 0 => .array .int
  | 1 => .array .int
  | 2 => .array .int
  | 3 => .array .int
  | 4 => .array .int
  | 5 => .array .int
  | 6 => .int
  | _ => .int
abbrev wsX20 : List Cond := u_ws RX2 TX2 8
theorem nmX2 : ∀ a, a < 8 → ∀ b, b < 8 → a ≠ b → (TX2 a).2.1 ≠ (TX2 b).2.1 := by decide +kernel
theorem tyX2_ok : ∀ k, k < 8 → parseFieldDescriptor (TX2 k).2.2.1 = some (tyX2 k) := by decide +kernel
abbrev cX2_init : ByteArray := prog_4_method_1_code
def yX2_init : MethodName := ⟨RX2, "<init>", "()V"⟩
abbrev cX2_copyFrom : ByteArray := prog_4_method_2_code
def yX2_copyFrom : MethodName := ⟨RX2, "copyFrom", "(LCommitteeBallots$Document;)V"⟩
abbrev cX2_slot : ByteArray := prog_4_method_3_code
def yX2_slot : MethodName := ⟨RX2, "slot", "(II)I"⟩
abbrev cX2_hasEdition : ByteArray := prog_4_method_4_code
def yX2_hasEdition : MethodName := ⟨RX2, "hasEdition", "(I)Z"⟩
abbrev cX2_find : ByteArray := prog_4_method_5_code
def yX2_find : MethodName := ⟨RX2, "find", "(I)I"⟩
abbrev cX2_insert : ByteArray := prog_4_method_6_code
def yX2_insert : MethodName := ⟨RX2, "insert", "(II)V"⟩
abbrev cX2_canGet : ByteArray := prog_4_method_7_code
def yX2_canGet : MethodName := ⟨RX2, "canGet", "(II)Z"⟩
abbrev cX2_isChanged : ByteArray := prog_4_method_8_code
def yX2_isChanged : MethodName := ⟨RX2, "isChanged", "()Z"⟩
abbrev cX2_differs : ByteArray := prog_4_method_9_code
def yX2_differs : MethodName := ⟨RX2, "differs", "(II)Z"⟩
abbrev cX2_changesOf : ByteArray := prog_4_method_10_code
def yX2_changesOf : MethodName := ⟨RX2, "changesOf", "(I)I"⟩
abbrev cX2_placeOfChange : ByteArray := prog_4_method_11_code
def yX2_placeOfChange : MethodName := ⟨RX2, "placeOfChange", "(II)I"⟩
def RX3 : String := "CommitteeBallots$History"
def TX3 : u_T := fun k => match k with
  | 0 => ("CommitteeBallots$History", "states", "[LCommitteeBallots$State;", true)
  | 1 => ("CommitteeBallots$History", "oldest", "I", false)
  | _ => ("CommitteeBallots$History", "size", "I", false)
def tyX3 : Nat → FieldType := fun k => match k with
  | 0 => .array (.object "CommitteeBallots$State")
  | 1 => .int
  | _ => .int
abbrev wsX30 : List Cond := u_ws RX3 TX3 3
theorem nmX3 : ∀ a, a < 3 → ∀ b, b < 3 → a ≠ b → (TX3 a).2.1 ≠ (TX3 b).2.1 := by decide +kernel
theorem tyX3_ok : ∀ k, k < 3 → parseFieldDescriptor (TX3 k).2.2.1 = some (tyX3 k) := by decide +kernel
abbrev cX3_init : ByteArray := prog_5_method_1_code
def yX3_init : MethodName := ⟨RX3, "<init>", "()V"⟩
abbrev cX3_keep : ByteArray := prog_5_method_2_code
def yX3_keep : MethodName := ⟨RX3, "keep", "(LCommitteeBallots$State;)V"⟩
abbrev cX3_restore : ByteArray := prog_5_method_3_code
def yX3_restore : MethodName := ⟨RX3, "restore", "(LCommitteeBallots$State;)V"⟩
def RX4 : String := "CommitteeBallots$Members"
def TX4 : u_T := fun k => match k with
  | 0 => ("CommitteeBallots$Members", "weight", "[I", true)
  | 1 => ("CommitteeBallots$Members", "misses", "[I", true)
  | 2 => ("CommitteeBallots$Members", "given", "[I", true)
  | 3 => ("CommitteeBallots$Members", "ballotsVoted", "[I", true)
  | _ => ("CommitteeBallots$Members", "size", "I", false)
def tyX4 : Nat → FieldType := fun k => match k with
  | 0 => .array .int
  | 1 => .array .int
  | 2 => .array .int
  | 3 => .array .int
  | _ => .int
abbrev wsX40 : List Cond := u_ws RX4 TX4 5
theorem nmX4 : ∀ a, a < 5 → ∀ b, b < 5 → a ≠ b → (TX4 a).2.1 ≠ (TX4 b).2.1 := by decide +kernel
theorem tyX4_ok : ∀ k, k < 5 → parseFieldDescriptor (TX4 k).2.2.1 = some (tyX4 k) := by decide +kernel
abbrev cX4_init : ByteArray := prog_6_method_1_code
def yX4_init : MethodName := ⟨RX4, "<init>", "()V"⟩
abbrev cX4_copyFrom : ByteArray := prog_6_method_2_code
def yX4_copyFrom : MethodName := ⟨RX4, "copyFrom", "(LCommitteeBallots$Members;)V"⟩
abbrev cX4_has : ByteArray := prog_6_method_3_code
def yX4_has : MethodName := ⟨RX4, "has", "(I)Z"⟩
abbrev cX4_hasVoted : ByteArray := prog_6_method_4_code
def yX4_hasVoted : MethodName := ⟨RX4, "hasVoted", "(I)Z"⟩
abbrev cX4_isSet : ByteArray := prog_6_method_5_code
def yX4_isSet : MethodName := ⟨RX4, "isSet", "(I)Z"⟩
abbrev cX4_append : ByteArray := prog_6_method_6_code
def yX4_append : MethodName := ⟨RX4, "append", "(I)I"⟩
abbrev cX4_voters : ByteArray := prog_6_method_7_code
def yX4_voters : MethodName := ⟨RX4, "voters", "()I"⟩
abbrev cX4_noteMisses : ByteArray := prog_6_method_8_code
def yX4_noteMisses : MethodName := ⟨RX4, "noteMisses", "()V"⟩
def RX5 : String := "CommitteeBallots$State"
def TX5 : u_T := fun k => match k with
  | 0 => ("CommitteeBallots$State", "members", "LCommitteeBallots$Members;", true)
  | 1 => ("CommitteeBallots$State", "document", "LCommitteeBallots$Document;", true)
  | 2 => ("CommitteeBallots$State", "ballot", "LCommitteeBallots$Ballot;", true)
  | 3 => ("CommitteeBallots$State", "comments", "LCommitteeBallots$Comments;", true)
  | 4 => ("CommitteeBallots$State", "settings", "[I", true)
  | _ => ("CommitteeBallots$State", "today", "I", false)
def tyX5 : Nat → FieldType := fun k => match k with
  | 0 => .object "CommitteeBallots$Members"
  | 1 => .object "CommitteeBallots$Document"
  | 2 => .object "CommitteeBallots$Ballot"
  | 3 => .object "CommitteeBallots$Comments"
  | 4 => .array .int
  | _ => .int
abbrev wsX50 : List Cond := u_ws RX5 TX5 6
theorem nmX5 : ∀ a, a < 6 → ∀ b, b < 6 → a ≠ b → (TX5 a).2.1 ≠ (TX5 b).2.1 := by decide +kernel
theorem tyX5_ok : ∀ k, k < 6 → parseFieldDescriptor (TX5 k).2.2.1 = some (tyX5 k) := by decide +kernel
abbrev cX5_init : ByteArray := prog_7_method_1_code
def yX5_init : MethodName := ⟨RX5, "<init>", "()V"⟩
abbrev cX5_copyFrom : ByteArray := prog_7_method_2_code
def yX5_copyFrom : MethodName := ⟨RX5, "copyFrom", "(LCommitteeBallots$State;)V"⟩
abbrev cX5_isLapsed : ByteArray := prog_7_method_3_code
def yX5_isLapsed : MethodName := ⟨RX5, "isLapsed", "(I)Z"⟩
abbrev cX5_activeWeight : ByteArray := prog_7_method_4_code
def yX5_activeWeight : MethodName := ⟨RX5, "activeWeight", "()I"⟩
abbrev cX5_activeWeightIn : ByteArray := prog_7_method_5_code
def yX5_activeWeightIn : MethodName := ⟨RX5, "activeWeightIn", "(I)I"⟩
abbrev cX5_openBallot : ByteArray := prog_7_method_6_code
def yX5_openBallot : MethodName := ⟨RX5, "openBallot", "()V"⟩
abbrev cX5_countVotes : ByteArray := prog_7_method_7_code
def yX5_countVotes : MethodName := ⟨RX5, "countVotes", "()V"⟩
abbrev cX5_sumFor : ByteArray := prog_7_method_8_code
def yX5_sumFor : MethodName := ⟨RX5, "sumFor", "(I)I"⟩
abbrev cX5_isCarriedBy : ByteArray := prog_7_method_9_code
def yX5_isCarriedBy : MethodName := ⟨RX5, "isCarriedBy", "([I)Z"⟩
abbrev cX5_endBallot : ByteArray := prog_7_method_10_code
def yX5_endBallot : MethodName := ⟨RX5, "endBallot", "()V"⟩
abbrev cX5_settle : ByteArray := prog_7_method_11_code
def yX5_settle : MethodName := ⟨RX5, "settle", "(III)V"⟩
abbrev cX5_bringEdition : ByteArray := prog_7_method_12_code
def yX5_bringEdition : MethodName := ⟨RX5, "bringEdition", "()V"⟩
abbrev cX5_reopen : ByteArray := prog_7_method_13_code
def yX5_reopen : MethodName := ⟨RX5, "reopen", "(I)V"⟩
def RX6 : String := "CommitteeBallots$Text"
def TX6 : u_T := fun k => match k with
  | 0 => ("CommitteeBallots$Text", "signs", "[C", true)
  | 1 => ("CommitteeBallots$Text", "length", "I", false)
  | 2 => ("CommitteeBallots$Text", "start", "I", false)
  | 3 => ("CommitteeBallots$Text", "end", "I", false)
  | 4 => ("CommitteeBallots$Text", "clause", "I", false)
  | 5 => ("CommitteeBallots$Text", "kind", "I", false)
  | _ => ("CommitteeBallots$Text", "proposed", "I", false)
def tyX6 : Nat → FieldType := fun k => match k with
  | 0 => .array .char
  | 1 => .int
  | 2 => .int
  | 3 => .int
  | 4 => .int
  | 5 => .int
  | _ => .int
abbrev wsX60 : List Cond := u_ws RX6 TX6 7
theorem nmX6 : ∀ a, a < 7 → ∀ b, b < 7 → a ≠ b → (TX6 a).2.1 ≠ (TX6 b).2.1 := by decide +kernel
theorem tyX6_ok : ∀ k, k < 7 → parseFieldDescriptor (TX6 k).2.2.1 = some (tyX6 k) := by decide +kernel
abbrev cX6_init : ByteArray := prog_8_method_1_code
def yX6_init : MethodName := ⟨RX6, "<init>", "()V"⟩
abbrev cX6_append : ByteArray := prog_8_method_2_code
def yX6_append : MethodName := ⟨RX6, "append", "(C)V"⟩
abbrev cX6_rewind : ByteArray := prog_8_method_3_code
def yX6_rewind : MethodName := ⟨RX6, "rewind", "()V"⟩
abbrev cX6_isAtEnd : ByteArray := prog_8_method_4_code
def yX6_isAtEnd : MethodName := ⟨RX6, "isAtEnd", "()Z"⟩
abbrev cX6_readComment : ByteArray := prog_8_method_5_code
def yX6_readComment : MethodName := ⟨RX6, "readComment", "()Z"⟩
abbrev cX6_signAt : ByteArray := prog_8_method_6_code
def yX6_signAt : MethodName := ⟨RX6, "signAt", "(I)C"⟩
abbrev cX6_digitsAt : ByteArray := prog_8_method_7_code
def yX6_digitsAt : MethodName := ⟨RX6, "digitsAt", "(II)I"⟩
abbrev cX6_numberAt : ByteArray := prog_8_method_8_code
def yX6_numberAt : MethodName := ⟨RX6, "numberAt", "(II)I"⟩
def RX7 : String := "CommitteeBallots"
def TX7 : u_T := fun k => match k with
  | 0 => ("CommitteeBallots", "now", "LCommitteeBallots$State;", true)
  | 1 => ("CommitteeBallots", "history", "LCommitteeBallots$History;", true)
  | _ => ("CommitteeBallots", "text", "LCommitteeBallots$Text;", true)
def tyX7 : Nat → FieldType := fun k => match k with
  | 0 => .object "CommitteeBallots$State"
  | 1 => .object "CommitteeBallots$History"
  | _ => .object "CommitteeBallots$Text"
abbrev wsX70 : List Cond := u_ws RX7 TX7 3
theorem nmX7 : ∀ a, a < 3 → ∀ b, b < 3 → a ≠ b → (TX7 a).2.1 ≠ (TX7 b).2.1 := by decide +kernel
theorem tyX7_ok : ∀ k, k < 3 → parseFieldDescriptor (TX7 k).2.2.1 = some (tyX7 k) := by decide +kernel
abbrev cX7_init : ByteArray := prog_1_method_1_code
def yX7_init : MethodName := ⟨RX7, "<init>", "()V"⟩
abbrev cX7_addMember : ByteArray := prog_1_method_2_code
def yX7_addMember : MethodName := ⟨RX7, "addMember", "(I)I"⟩
abbrev cX7_addClause : ByteArray := prog_1_method_3_code
def yX7_addClause : MethodName := ⟨RX7, "addClause", "(II)I"⟩
abbrev cX7_set : ByteArray := prog_1_method_4_code
def yX7_set : MethodName := ⟨RX7, "set", "(II)I"⟩
abbrev cX7_member : ByteArray := prog_1_method_5_code
def yX7_member : MethodName := ⟨RX7, "member", "(II)I"⟩
abbrev cX7_value : ByteArray := prog_1_method_6_code
def yX7_value : MethodName := ⟨RX7, "value", "(I)I"⟩
abbrev cX7_valueIn : ByteArray := prog_1_method_7_code
def yX7_valueIn : MethodName := ⟨RX7, "valueIn", "(II)I"⟩
abbrev cX7_clause : ByteArray := prog_1_method_8_code
def yX7_clause : MethodName := ⟨RX7, "clause", "(I)I"⟩
abbrev cX7_count : ByteArray := prog_1_method_9_code
def yX7_count : MethodName := ⟨RX7, "count", "(I)I"⟩
abbrev cX7_open : ByteArray := prog_1_method_10_code
def yX7_open : MethodName := ⟨RX7, "open", "()I"⟩
abbrev cX7_vote : ByteArray := prog_1_method_11_code
def yX7_vote : MethodName := ⟨RX7, "vote", "(II)I"⟩
abbrev cX7_pass : ByteArray := prog_1_method_12_code
def yX7_pass : MethodName := ⟨RX7, "pass", "(I)I"⟩
abbrev cX7_tally : ByteArray := prog_1_method_13_code
def yX7_tally : MethodName := ⟨RX7, "tally", "(I)I"⟩
abbrev cX7_lacking : ByteArray := prog_1_method_14_code
def yX7_lacking : MethodName := ⟨RX7, "lacking", "()I"⟩
abbrev cX7_comment : ByteArray := prog_1_method_15_code
def yX7_comment : MethodName := ⟨RX7, "comment", "(IIII)I"⟩
abbrev cX7_told : ByteArray := prog_1_method_16_code
def yX7_told : MethodName := ⟨RX7, "told", "(II)I"⟩
abbrev cX7_next : ByteArray := prog_1_method_17_code
def yX7_next : MethodName := ⟨RX7, "next", "()I"⟩
abbrev cX7_resolve : ByteArray := prog_1_method_18_code
def yX7_resolve : MethodName := ⟨RX7, "resolve", "(II)I"⟩
abbrev cX7_appeal : ByteArray := prog_1_method_19_code
def yX7_appeal : MethodName := ⟨RX7, "appeal", "(III)I"⟩
abbrev cX7_changes : ByteArray := prog_1_method_20_code
def yX7_changes : MethodName := ⟨RX7, "changes", "(I)I"⟩
abbrev cX7_change : ByteArray := prog_1_method_21_code
def yX7_change : MethodName := ⟨RX7, "change", "(III)I"⟩
abbrev cX7_undo : ByteArray := prog_1_method_22_code
def yX7_undo : MethodName := ⟨RX7, "undo", "()I"⟩
abbrev cX7_type : ByteArray := prog_1_method_23_code
def yX7_type : MethodName := ⟨RX7, "type", "(I)I"⟩
abbrev cX7_fault : ByteArray := prog_1_method_25_code
def yX7_fault : MethodName := ⟨RX7, "fault", "(I)I"⟩
abbrev cX7_enter : ByteArray := prog_1_method_26_code
def yX7_enter : MethodName := ⟨RX7, "enter", "(I)I"⟩
abbrev cX7_firstFault : ByteArray := prog_1_method_27_code
def yX7_firstFault : MethodName := ⟨RX7, "firstFault", "()I"⟩
abbrev cX7_isValue : ByteArray := prog_1_method_28_code
def yX7_isValue : MethodName := ⟨RX7, "isValue", "(I)Z"⟩
abbrev cX7_dividedUp : ByteArray := prog_1_method_29_code
def yX7_dividedUp : MethodName := ⟨RX7, "dividedUp", "(II)I"⟩
abbrev cX7_copyAll : ByteArray := prog_1_method_30_code
def yX7_copyAll : MethodName := ⟨RX7, "copyAll", "([I[I)V"⟩
def RX8 : String := "CommitteeBallotsModel"
def TX8 : u_T := fun k => match k with
  | _ => ("", "", "", false)
def tyX8 : Nat → FieldType := fun k => match k with
  | _ => .int
abbrev wsX80 : List Cond := u_ws RX8 TX8 0
theorem nmX8 : ∀ a, a < 0 → ∀ b, b < 0 → a ≠ b → (TX8 a).2.1 ≠ (TX8 b).2.1 := by decide +kernel
theorem tyX8_ok : ∀ k, k < 0 → parseFieldDescriptor (TX8 k).2.2.1 = some (tyX8 k) := by decide +kernel
def RJx8e188 : String := "java/lang/Cloneable"
def TJx8e188 : u_T := fun k => match k with
  | _ => ("", "", "", false)
def tyJx8e188 : Nat → FieldType := fun k => match k with
  | _ => .int
abbrev wsJx8e1880 : List Cond := u_ws RJx8e188 TJx8e188 0
theorem nmJx8e188 : ∀ a, a < 0 → ∀ b, b < 0 → a ≠ b → (TJx8e188 a).2.1 ≠ (TJx8e188 b).2.1 := by decide +kernel
theorem tyJx8e188_ok : ∀ k, k < 0 → parseFieldDescriptor (TJx8e188 k).2.2.1 = some (tyJx8e188 k) := by decide +kernel
def RJ9 : String := "java/lang/Math"
def TJ9 : u_T := fun k => match k with
  | _ => ("", "", "", false)
def tyJ9 : Nat → FieldType := fun k => match k with
  | _ => .int
abbrev wsJ90 : List Cond := u_ws RJ9 TJ9 0
theorem nmJ9 : ∀ a, a < 0 → ∀ b, b < 0 → a ≠ b → (TJ9 a).2.1 ≠ (TJ9 b).2.1 := by decide +kernel
theorem tyJ9_ok : ∀ k, k < 0 → parseFieldDescriptor (TJ9 k).2.2.1 = some (tyJ9 k) := by decide +kernel
abbrev cJ9_max_7cf53 : ByteArray := prog_12_method_65_code
def yJ9_max_7cf53 : MethodName := ⟨RJ9, "max", "(II)I"⟩
abbrev cJ9_min_7cf53 : ByteArray := prog_12_method_69_code
def yJ9_min_7cf53 : MethodName := ⟨RJ9, "min", "(II)I"⟩
def RJ10 : String := "java/lang/System"
def TJ10 : u_T := fun k => match k with
  | _ => ("", "", "", false)
def tyJ10 : Nat → FieldType := fun k => match k with
  | _ => .int
abbrev wsJ100 : List Cond := u_ws RJ10 TJ10 0
theorem nmJ10 : ∀ a, a < 0 → ∀ b, b < 0 → a ≠ b → (TJ10 a).2.1 ≠ (TJ10 b).2.1 := by decide +kernel
theorem tyJ10_ok : ∀ k, k < 0 → parseFieldDescriptor (TJ10 k).2.2.1 = some (tyJ10 k) := by decide +kernel
def RJ7 : String := "java/util/Arrays"
def TJ7 : u_T := fun k => match k with
  | _ => ("", "", "", false)
def tyJ7 : Nat → FieldType := fun k => match k with
  | _ => .int
abbrev wsJ70 : List Cond := u_ws RJ7 TJ7 0
theorem nmJ7 : ∀ a, a < 0 → ∀ b, b < 0 → a ≠ b → (TJ7 a).2.1 ≠ (TJ7 b).2.1 := by decide +kernel
theorem tyJ7_ok : ∀ k, k < 0 → parseFieldDescriptor (TJ7 k).2.2.1 = some (tyJ7 k) := by decide +kernel
abbrev cJ7_fill_53178 : ByteArray := prog_14_method_103_code
def yJ7_fill_53178 : MethodName := ⟨RJ7, "fill", "([II)V"⟩
def RL : String := "CommitteeBallotsLaw"
abbrev cL_cell : ByteArray := method_2_code
def yL_cell : MethodName := ⟨RL, "cell", "([II)I"⟩
abbrev cL_low : ByteArray := method_3_code
def yL_low : MethodName := ⟨RL, "low", "(II)I"⟩
abbrev cL_print : ByteArray := method_4_code
def yL_print : MethodName := ⟨RL, "print", "(LCommitteeBallots;)J"⟩
abbrev cL_refused : ByteArray := method_5_code
def yL_refused : MethodName := ⟨RL, "refused", "(LCommitteeBallots;)Z"⟩
abbrev cL_areMembers : ByteArray := method_6_code
def yL_areMembers : MethodName := ⟨RL, "areMembers", "(LCommitteeBallots;)Z"⟩
abbrev cL_areVotes : ByteArray := method_7_code
def yL_areVotes : MethodName := ⟨RL, "areVotes", "(LCommitteeBallots;)Z"⟩
abbrev cL_areComments : ByteArray := method_8_code
def yL_areComments : MethodName := ⟨RL, "areComments", "(LCommitteeBallots;)Z"⟩
abbrev cL_areEditions : ByteArray := method_9_code
def yL_areEditions : MethodName := ⟨RL, "areEditions", "(LCommitteeBallots;)Z"⟩
abbrev cL_isAppealed : ByteArray := method_10_code
def yL_isAppealed : MethodName := ⟨RL, "isAppealed", "(LCommitteeBallots;I)Z"⟩
abbrev cL_acts : ByteArray := method_11_code
def yL_acts : MethodName := ⟨RL, "acts", "(LCommitteeBallots;II)I"⟩
abbrev cL_law : ByteArray := code
def yL_law : MethodName := ⟨RL, "law", "([I)Z"⟩
abbrev vwCl : List vw_C := [(RX0, TX0, 5), (RX1, TX1, 10), (RX2, TX2, 8), (RX3, TX3, 3), (RX4, TX4, 5), (RX5, TX5, 6), (RX6, TX6, 7), (RX7, TX7, 3)]
