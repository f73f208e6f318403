section
/-- a private method of a class that the tables say can be made, by its rows of tables_1 -/
def lw_okq (q : MethodName × Nat) : Prop := (q.1.cls ≠ "java/lang/invoke/MethodHandle" ∧ q.1.cls ≠ "java/lang/invoke/VarHandle") ∧ Cond.instantiable q.1.cls q.2 ∈ tables_1 ∧ Cond.privateMethod q.1 ∈ tables_1 ∧ Cond.instanceMethod q.1 ∈ tables_1
theorem lw_p0 : lw_okq (⟨"CommitteeBallots$State", "sumFor", "(I)I"⟩, 6) := ⟨⟨by decide +kernel, by decide +kernel⟩, List.mem_of_getElem? (i := 22) (by decide +kernel), List.mem_of_getElem? (i := 442) (by decide +kernel), List.mem_of_getElem? (i := 443) (by decide +kernel)⟩
theorem lw_p1 : lw_okq (⟨"CommitteeBallots$State", "isCarriedBy", "([I)Z"⟩, 6) := ⟨⟨by decide +kernel, by decide +kernel⟩, List.mem_of_getElem? (i := 22) (by decide +kernel), List.mem_of_getElem? (i := 450) (by decide +kernel), List.mem_of_getElem? (i := 451) (by decide +kernel)⟩
theorem lw_p2 : lw_okq (⟨"CommitteeBallots$Comments", "isAhead", "(IILCommitteeBallots$Members;)Z"⟩, 10) := ⟨⟨by decide +kernel, by decide +kernel⟩, List.mem_of_getElem? (i := 137) (by decide +kernel), List.mem_of_getElem? (i := 509) (by decide +kernel), List.mem_of_getElem? (i := 510) (by decide +kernel)⟩
theorem lw_p3 : lw_okq (⟨"CommitteeBallots$State", "bringEdition", "()V"⟩, 6) := ⟨⟨by decide +kernel, by decide +kernel⟩, List.mem_of_getElem? (i := 22) (by decide +kernel), List.mem_of_getElem? (i := 535) (by decide +kernel), List.mem_of_getElem? (i := 536) (by decide +kernel)⟩
theorem lw_p4 : lw_okq (⟨"CommitteeBallots", "firstFault", "()I"⟩, 3) := ⟨⟨by decide +kernel, by decide +kernel⟩, List.mem_of_getElem? (i := 14) (by decide +kernel), List.mem_of_getElem? (i := 602) (by decide +kernel), List.mem_of_getElem? (i := 603) (by decide +kernel)⟩
theorem lw_p5 : lw_okq (⟨"CommitteeBallots$Text", "digitsAt", "(II)I"⟩, 7) := ⟨⟨by decide +kernel, by decide +kernel⟩, List.mem_of_getElem? (i := 240) (by decide +kernel), List.mem_of_getElem? (i := 618) (by decide +kernel), List.mem_of_getElem? (i := 619) (by decide +kernel)⟩
theorem lw_p6 : lw_okq (⟨"CommitteeBallots$Text", "signAt", "(I)C"⟩, 7) := ⟨⟨by decide +kernel, by decide +kernel⟩, List.mem_of_getElem? (i := 240) (by decide +kernel), List.mem_of_getElem? (i := 622) (by decide +kernel), List.mem_of_getElem? (i := 623) (by decide +kernel)⟩
theorem lw_p7 : lw_okq (⟨"CommitteeBallots$Text", "numberAt", "(II)I"⟩, 7) := ⟨⟨by decide +kernel, by decide +kernel⟩, List.mem_of_getElem? (i := 240) (by decide +kernel), List.mem_of_getElem? (i := 626) (by decide +kernel), List.mem_of_getElem? (i := 627) (by decide +kernel)⟩
theorem lw_p8 : lw_okq (⟨"CommitteeBallotsModel", "records", "()V"⟩, 12) := ⟨⟨by decide +kernel, by decide +kernel⟩, List.mem_of_getElem? (i := 634) (by decide +kernel), List.mem_of_getElem? (i := 688) (by decide +kernel), List.mem_of_getElem? (i := 689) (by decide +kernel)⟩
theorem lw_p9 : lw_okq (⟨"CommitteeBallotsModel", "indexOf", "(I)I"⟩, 12) := ⟨⟨by decide +kernel, by decide +kernel⟩, List.mem_of_getElem? (i := 634) (by decide +kernel), List.mem_of_getElem? (i := 702) (by decide +kernel), List.mem_of_getElem? (i := 703) (by decide +kernel)⟩
theorem lw_p10 : lw_okq (⟨"CommitteeBallotsModel", "isMember", "(I)Z"⟩, 12) := ⟨⟨by decide +kernel, by decide +kernel⟩, List.mem_of_getElem? (i := 634) (by decide +kernel), List.mem_of_getElem? (i := 720) (by decide +kernel), List.mem_of_getElem? (i := 721) (by decide +kernel)⟩
theorem lw_p11 : lw_okq (⟨"CommitteeBallotsModel", "isLapsed", "(I)Z"⟩, 12) := ⟨⟨by decide +kernel, by decide +kernel⟩, List.mem_of_getElem? (i := 634) (by decide +kernel), List.mem_of_getElem? (i := 724) (by decide +kernel), List.mem_of_getElem? (i := 725) (by decide +kernel)⟩
theorem lw_p12 : lw_okq (⟨"CommitteeBallotsModel", "commentsOf", "(I)I"⟩, 12) := ⟨⟨by decide +kernel, by decide +kernel⟩, List.mem_of_getElem? (i := 634) (by decide +kernel), List.mem_of_getElem? (i := 728) (by decide +kernel), List.mem_of_getElem? (i := 729) (by decide +kernel)⟩
theorem lw_p13 : lw_okq (⟨"CommitteeBallotsModel", "isEdition", "(I)Z"⟩, 12) := ⟨⟨by decide +kernel, by decide +kernel⟩, List.mem_of_getElem? (i := 634) (by decide +kernel), List.mem_of_getElem? (i := 743) (by decide +kernel), List.mem_of_getElem? (i := 744) (by decide +kernel)⟩
theorem lw_p14 : lw_okq (⟨"CommitteeBallotsModel", "pending", "()I"⟩, 12) := ⟨⟨by decide +kernel, by decide +kernel⟩, List.mem_of_getElem? (i := 634) (by decide +kernel), List.mem_of_getElem? (i := 755) (by decide +kernel), List.mem_of_getElem? (i := 756) (by decide +kernel)⟩
theorem lw_p15 : lw_okq (⟨"CommitteeBallotsModel", "activeWeight", "()I"⟩, 12) := ⟨⟨by decide +kernel, by decide +kernel⟩, List.mem_of_getElem? (i := 634) (by decide +kernel), List.mem_of_getElem? (i := 759) (by decide +kernel), List.mem_of_getElem? (i := 760) (by decide +kernel)⟩
def lw_privs_1 : List (MethodName × Nat) := [(⟨"CommitteeBallots$State", "sumFor", "(I)I"⟩, 6), (⟨"CommitteeBallots$State", "isCarriedBy", "([I)Z"⟩, 6), (⟨"CommitteeBallots$Comments", "isAhead", "(IILCommitteeBallots$Members;)Z"⟩, 10), (⟨"CommitteeBallots$State", "bringEdition", "()V"⟩, 6), (⟨"CommitteeBallots", "firstFault", "()I"⟩, 3), (⟨"CommitteeBallots$Text", "digitsAt", "(II)I"⟩, 7), (⟨"CommitteeBallots$Text", "signAt", "(I)C"⟩, 7), (⟨"CommitteeBallots$Text", "numberAt", "(II)I"⟩, 7), (⟨"CommitteeBallotsModel", "records", "()V"⟩, 12), (⟨"CommitteeBallotsModel", "indexOf", "(I)I"⟩, 12), (⟨"CommitteeBallotsModel", "isMember", "(I)Z"⟩, 12), (⟨"CommitteeBallotsModel", "isLapsed", "(I)Z"⟩, 12), (⟨"CommitteeBallotsModel", "commentsOf", "(I)I"⟩, 12), (⟨"CommitteeBallotsModel", "isEdition", "(I)Z"⟩, 12), (⟨"CommitteeBallotsModel", "pending", "()I"⟩, 12), (⟨"CommitteeBallotsModel", "activeWeight", "()I"⟩, 12)]
theorem lw_r1 : ∀ q ∈ lw_privs_1, lw_okq q := List.forall_mem_cons.mpr ⟨lw_p0, List.forall_mem_cons.mpr ⟨lw_p1, List.forall_mem_cons.mpr ⟨lw_p2, List.forall_mem_cons.mpr ⟨lw_p3, List.forall_mem_cons.mpr ⟨lw_p4, List.forall_mem_cons.mpr ⟨lw_p5, List.forall_mem_cons.mpr ⟨lw_p6, List.forall_mem_cons.mpr ⟨lw_p7, List.forall_mem_cons.mpr ⟨lw_p8, List.forall_mem_cons.mpr ⟨lw_p9, List.forall_mem_cons.mpr ⟨lw_p10, List.forall_mem_cons.mpr ⟨lw_p11, List.forall_mem_cons.mpr ⟨lw_p12, List.forall_mem_cons.mpr ⟨lw_p13, List.forall_mem_cons.mpr ⟨lw_p14, List.forall_mem_cons.mpr ⟨lw_p15, fun _ h => absurd h List.not_mem_nil⟩⟩⟩⟩⟩⟩⟩⟩⟩⟩⟩⟩⟩⟩⟩⟩
theorem lw_p16 : lw_okq (⟨"CommitteeBallotsModel", "ends", "()Z"⟩, 12) := ⟨⟨by decide +kernel, by decide +kernel⟩, List.mem_of_getElem? (i := 634) (by decide +kernel), List.mem_of_getElem? (i := 775) (by decide +kernel), List.mem_of_getElem? (i := 776) (by decide +kernel)⟩
theorem lw_p17 : lw_okq (⟨"CommitteeBallotsModel", "tallies", "()V"⟩, 12) := ⟨⟨by decide +kernel, by decide +kernel⟩, List.mem_of_getElem? (i := 634) (by decide +kernel), List.mem_of_getElem? (i := 779) (by decide +kernel), List.mem_of_getElem? (i := 780) (by decide +kernel)⟩
theorem lw_p18 : lw_okq (⟨"CommitteeBallotsModel", "isTechnical", "(I)Z"⟩, 12) := ⟨⟨by decide +kernel, by decide +kernel⟩, List.mem_of_getElem? (i := 634) (by decide +kernel), List.mem_of_getElem? (i := 783) (by decide +kernel), List.mem_of_getElem? (i := 784) (by decide +kernel)⟩
theorem lw_p19 : lw_okq (⟨"CommitteeBallotsModel", "carries", "(IIII)Z"⟩, 12) := ⟨⟨by decide +kernel, by decide +kernel⟩, List.mem_of_getElem? (i := 634) (by decide +kernel), List.mem_of_getElem? (i := 787) (by decide +kernel), List.mem_of_getElem? (i := 788) (by decide +kernel)⟩
theorem lw_p20 : lw_okq (⟨"CommitteeBallotsModel", "comes", "(IIII)I"⟩, 12) := ⟨⟨by decide +kernel, by decide +kernel⟩, List.mem_of_getElem? (i := 634) (by decide +kernel), List.mem_of_getElem? (i := 803) (by decide +kernel), List.mem_of_getElem? (i := 804) (by decide +kernel)⟩
theorem lw_p21 : lw_okq (⟨"CommitteeBallotsModel", "isComment", "(I)Z"⟩, 12) := ⟨⟨by decide +kernel, by decide +kernel⟩, List.mem_of_getElem? (i := 634) (by decide +kernel), List.mem_of_getElem? (i := 811) (by decide +kernel), List.mem_of_getElem? (i := 812) (by decide +kernel)⟩
theorem lw_p22 : lw_okq (⟨"CommitteeBallotsModel", "isAhead", "(II)Z"⟩, 12) := ⟨⟨by decide +kernel, by decide +kernel⟩, List.mem_of_getElem? (i := 634) (by decide +kernel), List.mem_of_getElem? (i := 819) (by decide +kernel), List.mem_of_getElem? (i := 820) (by decide +kernel)⟩
theorem lw_p23 : lw_okq (⟨"CommitteeBallotsModel", "canGet", "(II)Z"⟩, 12) := ⟨⟨by decide +kernel, by decide +kernel⟩, List.mem_of_getElem? (i := 634) (by decide +kernel), List.mem_of_getElem? (i := 828) (by decide +kernel), List.mem_of_getElem? (i := 829) (by decide +kernel)⟩
theorem lw_p24 : lw_okq (⟨"CommitteeBallotsModel", "comesEdition", "()V"⟩, 12) := ⟨⟨by decide +kernel, by decide +kernel⟩, List.mem_of_getElem? (i := 634) (by decide +kernel), List.mem_of_getElem? (i := 832) (by decide +kernel), List.mem_of_getElem? (i := 833) (by decide +kernel)⟩
theorem lw_p25 : lw_okq (⟨"CommitteeBallotsModel", "giver", "(II)I"⟩, 12) := ⟨⟨by decide +kernel, by decide +kernel⟩, List.mem_of_getElem? (i := 634) (by decide +kernel), List.mem_of_getElem? (i := 836) (by decide +kernel), List.mem_of_getElem? (i := 837) (by decide +kernel)⟩
theorem lw_p26 : lw_okq (⟨"CommitteeBallotsModel", "reopens", "(I)V"⟩, 12) := ⟨⟨by decide +kernel, by decide +kernel⟩, List.mem_of_getElem? (i := 634) (by decide +kernel), List.mem_of_getElem? (i := 844) (by decide +kernel), List.mem_of_getElem? (i := 845) (by decide +kernel)⟩
theorem lw_p27 : lw_okq (⟨"CommitteeBallotsModel", "isChanged", "(II)Z"⟩, 12) := ⟨⟨by decide +kernel, by decide +kernel⟩, List.mem_of_getElem? (i := 634) (by decide +kernel), List.mem_of_getElem? (i := 852) (by decide +kernel), List.mem_of_getElem? (i := 853) (by decide +kernel)⟩
theorem lw_p28 : lw_okq (⟨"CommitteeBallotsModel", "hasFault", "()Z"⟩, 12) := ⟨⟨by decide +kernel, by decide +kernel⟩, List.mem_of_getElem? (i := 634) (by decide +kernel), List.mem_of_getElem? (i := 872) (by decide +kernel), List.mem_of_getElem? (i := 873) (by decide +kernel)⟩
theorem lw_p29 : lw_okq (⟨"CommitteeBallotsModel", "readsComment", "()Z"⟩, 12) := ⟨⟨by decide +kernel, by decide +kernel⟩, List.mem_of_getElem? (i := 634) (by decide +kernel), List.mem_of_getElem? (i := 876) (by decide +kernel), List.mem_of_getElem? (i := 877) (by decide +kernel)⟩
theorem lw_p30 : lw_okq (⟨"CommitteeBallotsModel", "readNumber", "(I)I"⟩, 12) := ⟨⟨by decide +kernel, by decide +kernel⟩, List.mem_of_getElem? (i := 634) (by decide +kernel), List.mem_of_getElem? (i := 880) (by decide +kernel), List.mem_of_getElem? (i := 881) (by decide +kernel)⟩
theorem lw_p31 : lw_okq (⟨"CommitteeBallotsModel", "here", "()I"⟩, 12) := ⟨⟨by decide +kernel, by decide +kernel⟩, List.mem_of_getElem? (i := 634) (by decide +kernel), List.mem_of_getElem? (i := 884) (by decide +kernel), List.mem_of_getElem? (i := 885) (by decide +kernel)⟩
def lw_privs_2 : List (MethodName × Nat) := [(⟨"CommitteeBallotsModel", "ends", "()Z"⟩, 12), (⟨"CommitteeBallotsModel", "tallies", "()V"⟩, 12), (⟨"CommitteeBallotsModel", "isTechnical", "(I)Z"⟩, 12), (⟨"CommitteeBallotsModel", "carries", "(IIII)Z"⟩, 12), (⟨"CommitteeBallotsModel", "comes", "(IIII)I"⟩, 12), (⟨"CommitteeBallotsModel", "isComment", "(I)Z"⟩, 12), (⟨"CommitteeBallotsModel", "isAhead", "(II)Z"⟩, 12), (⟨"CommitteeBallotsModel", "canGet", "(II)Z"⟩, 12), (⟨"CommitteeBallotsModel", "comesEdition", "()V"⟩, 12), (⟨"CommitteeBallotsModel", "giver", "(II)I"⟩, 12), (⟨"CommitteeBallotsModel", "reopens", "(I)V"⟩, 12), (⟨"CommitteeBallotsModel", "isChanged", "(II)Z"⟩, 12), (⟨"CommitteeBallotsModel", "hasFault", "()Z"⟩, 12), (⟨"CommitteeBallotsModel", "readsComment", "()Z"⟩, 12), (⟨"CommitteeBallotsModel", "readNumber", "(I)I"⟩, 12), (⟨"CommitteeBallotsModel", "here", "()I"⟩, 12)]
theorem lw_r2 : ∀ q ∈ lw_privs_2, lw_okq q := List.forall_mem_cons.mpr ⟨lw_p16, List.forall_mem_cons.mpr ⟨lw_p17, List.forall_mem_cons.mpr ⟨lw_p18, List.forall_mem_cons.mpr ⟨lw_p19, List.forall_mem_cons.mpr ⟨lw_p20, List.forall_mem_cons.mpr ⟨lw_p21, List.forall_mem_cons.mpr ⟨lw_p22, List.forall_mem_cons.mpr ⟨lw_p23, List.forall_mem_cons.mpr ⟨lw_p24, List.forall_mem_cons.mpr ⟨lw_p25, List.forall_mem_cons.mpr ⟨lw_p26, List.forall_mem_cons.mpr ⟨lw_p27, List.forall_mem_cons.mpr ⟨lw_p28, List.forall_mem_cons.mpr ⟨lw_p29, List.forall_mem_cons.mpr ⟨lw_p30, List.forall_mem_cons.mpr ⟨lw_p31, fun _ h => absurd h List.not_mem_nil⟩⟩⟩⟩⟩⟩⟩⟩⟩⟩⟩⟩⟩⟩⟩⟩
theorem lw_p32 : lw_okq (⟨"CommitteeBallotsModel", "takes", "(I)Z"⟩, 12) := ⟨⟨by decide +kernel, by decide +kernel⟩, List.mem_of_getElem? (i := 634) (by decide +kernel), List.mem_of_getElem? (i := 888) (by decide +kernel), List.mem_of_getElem? (i := 889) (by decide +kernel)⟩
def lw_privs_3 : List (MethodName × Nat) := [(⟨"CommitteeBallotsModel", "takes", "(I)Z"⟩, 12)]
theorem lw_r3 : ∀ q ∈ lw_privs_3, lw_okq q := List.forall_mem_cons.mpr ⟨lw_p32, fun _ h => absurd h List.not_mem_nil⟩
def lw_privs : List (MethodName × Nat) := lw_privs_1 ++ (lw_privs_2 ++ (lw_privs_3))
def lw_tbl : List Cond := k2_sels lw_privs ++ tables_1
theorem lw_privs_ok : ∀ q ∈ lw_privs, lw_okq q := by
  show ∀ q ∈ lw_privs_1 ++ (lw_privs_2 ++ (lw_privs_3)), lw_okq q
  exact List.forall_mem_append.mpr ⟨lw_r1, List.forall_mem_append.mpr ⟨lw_r2, lw_r3⟩⟩
def RX0 : String := "CommitteeBallots$Ballot"
def TX0 : u_T := fun k => match k with
  | 0 => ("CommitteeBallots$Ballot", "sums", "[I", true)
  | 1 => ("CommitteeBallots$Ballot", "isOpen", "Z", false)
  | 2 => ("CommitteeBallots$Ballot", "broughtEdition", "Z", false)
  | 3 => ("CommitteeBallots$Ballot", "number", "I", false)
  | _ => ("CommitteeBallots$Ballot", "lastDay", "I", false)
def tyX0 : Nat → FieldType := fun k => match k with
  | 0 => .array .int
  | 1 => .boolean
  | 2 => .boolean
  | 3 => .int
  | _ => .int
abbrev wsX00 : List Cond := u_ws RX0 TX0 5
theorem nmX0 : ∀ a, a < 5 → ∀ b, b < 5 → a ≠ b → (TX0 a).2.1 ≠ (TX0 b).2.1 := by decide +kernel
theorem tyX0_ok : ∀ k, k < 5 → parseFieldDescriptor (TX0 k).2.2.1 = some (tyX0 k) := by decide +kernel
abbrev cX0_init : ByteArray := prog_2_method_1_code
def yX0_init : MethodName := ⟨RX0, "<init>", "()V"⟩
abbrev cX0_copyFrom : ByteArray := prog_2_method_2_code
def yX0_copyFrom : MethodName := ⟨RX0, "copyFrom", "(LCommitteeBallots$Ballot;)V"⟩
def RX1 : String := "CommitteeBallots$Comments"
def TX1 : u_T := fun k => match k with
  | 0 => ("CommitteeBallots$Comments", "member", "[I", true)
  | 1 => ("CommitteeBallots$Comments", "place", "[I", true)
  | 2 => ("CommitteeBallots$Comments", "kind", "[I", true)
  | 3 => ("CommitteeBallots$Comments", "proposed", "[I", true)
  | 4 => ("CommitteeBallots$Comments", "standing", "[I", true)
  | 5 => ("CommitteeBallots$Comments", "day", "[I", true)
  | 6 => ("CommitteeBallots$Comments", "gave", "[I", true)
  | 7 => ("CommitteeBallots$Comments", "turn", "[I", true)
  | 8 => ("CommitteeBallots$Comments", "size", "I", false)
  | _ => ("CommitteeBallots$Comments", "turns", "I", false)
def tyX1 : Nat → FieldType := fun k => match k with
  | 0 => .array .int
  | 1 => .array .int
  | 2 => .array .int
  | 3 => .array .int
  | 4 => .array .int
  | 5 => .array .int
  | 6 => .array .int
  | 7 => .array .int
  | 8 => .int
  | _ => .int
abbrev wsX10 : List Cond := u_ws RX1 TX1 10
theorem nmX1 : ∀ a, a < 10 → ∀ b, b < 10 → a ≠ b → (TX1 a).2.1 ≠ (TX1 b).2.1 := by decide +kernel
theorem tyX1_ok : ∀ k, k < 10 → parseFieldDescriptor (TX1 k).2.2.1 = some (tyX1 k) := by decide +kernel
abbrev cX1_init : ByteArray := prog_3_method_1_code
def yX1_init : MethodName := ⟨RX1, "<init>", "()V"⟩
abbrev cX1_copyFrom : ByteArray := prog_3_method_2_code
def yX1_copyFrom : MethodName := ⟨RX1, "copyFrom", "(LCommitteeBallots$Comments;)V"⟩
abbrev cX1_has : ByteArray := prog_3_method_3_code
def yX1_has : MethodName := ⟨RX1, "has", "(I)Z"⟩
abbrev cX1_isResolved : ByteArray := prog_3_method_4_code
def yX1_isResolved : MethodName := ⟨RX1, "isResolved", "(I)Z"⟩
abbrev cX1_gaveValue : ByteArray := prog_3_method_5_code
def yX1_gaveValue : MethodName := ⟨RX1, "gaveValue", "(I)Z"⟩
abbrev cX1_append : ByteArray := prog_3_method_6_code
def yX1_append : MethodName := ⟨RX1, "append", "(IIII)I"⟩
abbrev cX1_makeAllPending : ByteArray := prog_3_method_7_code
def yX1_makeAllPending : MethodName := ⟨RX1, "makeAllPending", "()V"⟩
abbrev cX1_pending : ByteArray := prog_3_method_8_code
def yX1_pending : MethodName := ⟨RX1, "pending", "()I"⟩
abbrev cX1_numberOf : ByteArray := prog_3_method_9_code
def yX1_numberOf : MethodName := ⟨RX1, "numberOf", "(I)I"⟩
abbrev cX1_hasTechnicalOf : ByteArray := prog_3_method_10_code
def yX1_hasTechnicalOf : MethodName := ⟨RX1, "hasTechnicalOf", "(I)Z"⟩
abbrev cX1_firstPending : ByteArray := prog_3_method_11_code
def yX1_firstPending : MethodName := ⟨RX1, "firstPending", "(LCommitteeBallots$Members;)I"⟩
abbrev cX1_isAhead : ByteArray := prog_3_method_12_code
def yX1_isAhead : MethodName := ⟨RX1, "isAhead", "(IILCommitteeBallots$Members;)Z"⟩
abbrev cX1_resolveAs : ByteArray := prog_3_method_13_code
def yX1_resolveAs : MethodName := ⟨RX1, "resolveAs", "(IIII)V"⟩
abbrev cX1_firstBehind : ByteArray := prog_3_method_14_code
def yX1_firstBehind : MethodName := ⟨RX1, "firstBehind", "(II)I"⟩
def RX2 : String := "CommitteeBallots$Document"
def TX2 : u_T := fun k => match k with
  | 0 => ("CommitteeBallots$Document", "number", "[I", true)
  | 1 => ("CommitteeBallots$Document", "present", "[I", true)
  | 2 => ("CommitteeBallots$Document", "atOpening", "[I", true)
  | 3 => ("CommitteeBallots$Document", "ballotBehind", "[I", true)
  | 4 => ("CommitteeBallots$Document", "inEdition", "[I", true)
  | 5 => ("CommitteeBallots$Document", "commentBehind", "[I", true)
  | 6 => ("CommitteeBallots$Document", "size", "I", false)
  | _ => ("CommitteeBallots$Document", "edition", "I", false)
def tyX2 : Nat → FieldType := fun k => match k with
  | 0 => .array .int
  | 1 => .array .int
  | 2 => .array .int
  | 3 => .array .int
  | 4 => .array .int
  | 5 => .array .int
  | 6 => .int
  | _ => .int
abbrev wsX20 : List Cond := u_ws RX2 TX2 8
theorem nmX2 : ∀ a, a < 8 → ∀ b, b < 8 → a ≠ b → (TX2 a).2.1 ≠ (TX2 b).2.1 := by decide +kernel
theorem tyX2_ok : ∀ k, k < 8 → parseFieldDescriptor (TX2 k).2.2.1 = some (tyX2 k) := by decide +kernel
abbrev cX2_init : ByteArray := prog_4_method_1_code
def yX2_init : MethodName := ⟨RX2, "<init>", "()V"⟩
abbrev cX2_copyFrom : ByteArray := prog_4_method_2_code
def yX2_copyFrom : MethodName := ⟨RX2, "copyFrom", "(LCommitteeBallots$Document;)V"⟩
abbrev cX2_slot : ByteArray := prog_4_method_3_code
def yX2_slot : MethodName := ⟨RX2, "slot", "(II)I"⟩
abbrev cX2_hasEdition : ByteArray := prog_4_method_4_code
def yX2_hasEdition : MethodName := ⟨RX2, "hasEdition", "(I)Z"⟩
abbrev cX2_find : ByteArray := prog_4_method_5_code
def yX2_find : MethodName := ⟨RX2, "find", "(I)I"⟩
abbrev cX2_insert : ByteArray := prog_4_method_6_code
def yX2_insert : MethodName := ⟨RX2, "insert", "(II)V"⟩
abbrev cX2_canGet : ByteArray := prog_4_method_7_code
def yX2_canGet : MethodName := ⟨RX2, "canGet", "(II)Z"⟩
abbrev cX2_isChanged : ByteArray := prog_4_method_8_code
def yX2_isChanged : MethodName := ⟨RX2, "isChanged", "()Z"⟩
abbrev cX2_differs : ByteArray := prog_4_method_9_code
def yX2_differs : MethodName := ⟨RX2, "differs", "(II)Z"⟩
abbrev cX2_changesOf : ByteArray := prog_4_method_10_code
def yX2_changesOf : MethodName := ⟨RX2, "changesOf", "(I)I"⟩
abbrev cX2_placeOfChange : ByteArray := prog_4_method_11_code
def yX2_placeOfChange : MethodName := ⟨RX2, "placeOfChange", "(II)I"⟩
def RX3 : String := "CommitteeBallots$History"
def TX3 : u_T := fun k => match k with
  | 0 => ("CommitteeBallots$History", "states", "[LCommitteeBallots$State;", true)
  | 1 => ("CommitteeBallots$History", "oldest", "I", false)
  | _ => ("CommitteeBallots$History", "size", "I", false)
def tyX3 : Nat → FieldType := fun k => match k with
  | 0 => .array (.object "CommitteeBallots$State")
  | 1 => .int
  | _ => .int
abbrev wsX30 : List Cond := u_ws RX3 TX3 3
theorem nmX3 : ∀ a, a < 3 → ∀ b, b < 3 → a ≠ b → (TX3 a).2.1 ≠ (TX3 b).2.1 := by decide +kernel
theorem tyX3_ok : ∀ k, k < 3 → parseFieldDescriptor (TX3 k).2.2.1 = some (tyX3 k) := by decide +kernel
abbrev cX3_init : ByteArray := prog_5_method_1_code
def yX3_init : MethodName := ⟨RX3, "<init>", "()V"⟩
abbrev cX3_keep : ByteArray := prog_5_method_2_code
def yX3_keep : MethodName := ⟨RX3, "keep", "(LCommitteeBallots$State;)V"⟩
abbrev cX3_restore : ByteArray := prog_5_method_3_code
def yX3_restore : MethodName := ⟨RX3, "restore", "(LCommitteeBallots$State;)V"⟩
def RX4 : String := "CommitteeBallots$Members"
def TX4 : u_T := fun k => match k with
  | 0 => ("CommitteeBallots$Members", "weight", "[I", true)
  | 1 => ("CommitteeBallots$Members", "misses", "[I", true)
  | 2 => ("CommitteeBallots$Members", "given", "[I", true)
  | 3 => ("CommitteeBallots$Members", "ballotsVoted", "[I", true)
  | _ => ("CommitteeBallots$Members", "size", "I", false)
def tyX4 : Nat → FieldType := fun k => match k with
  | 0 => .array .int
  | 1 => .array .int
  | 2 => .array .int
  | 3 => .array .int
  | _ => .int
abbrev wsX40 : List Cond := u_ws RX4 TX4 5
theorem nmX4 : ∀ a, a < 5 → ∀ b, b < 5 → a ≠ b → (TX4 a).2.1 ≠ (TX4 b).2.1 := by decide +kernel
theorem tyX4_ok : ∀ k, k < 5 → parseFieldDescriptor (TX4 k).2.2.1 = some (tyX4 k) := by decide +kernel
abbrev cX4_init : ByteArray := prog_6_method_1_code
def yX4_init : MethodName := ⟨RX4, "<init>", "()V"⟩
abbrev cX4_copyFrom : ByteArray := prog_6_method_2_code
def yX4_copyFrom : MethodName := ⟨RX4, "copyFrom", "(LCommitteeBallots$Members;)V"⟩
abbrev cX4_has : ByteArray := prog_6_method_3_code
def yX4_has : MethodName := ⟨RX4, "has", "(I)Z"⟩
abbrev cX4_hasVoted : ByteArray := prog_6_method_4_code
def yX4_hasVoted : MethodName := ⟨RX4, "hasVoted", "(I)Z"⟩
abbrev cX4_isSet : ByteArray := prog_6_method_5_code
def yX4_isSet : MethodName := ⟨RX4, "isSet", "(I)Z"⟩
abbrev cX4_append : ByteArray := prog_6_method_6_code
def yX4_append : MethodName := ⟨RX4, "append", "(I)I"⟩
abbrev cX4_voters : ByteArray := prog_6_method_7_code
def yX4_voters : MethodName := ⟨RX4, "voters", "()I"⟩
abbrev cX4_noteMisses : ByteArray := prog_6_method_8_code
def yX4_noteMisses : MethodName := ⟨RX4, "noteMisses", "()V"⟩
def RX5 : String := "CommitteeBallots$State"
def TX5 : u_T := fun k => match k with
  | 0 => ("CommitteeBallots$State", "members", "LCommitteeBallots$Members;", true)
  | 1 => ("CommitteeBallots$State", "document", "LCommitteeBallots$Document;", true)
  | 2 => ("CommitteeBallots$State", "ballot", "LCommitteeBallots$Ballot;", true)
  | 3 => ("CommitteeBallots$State", "comments", "LCommitteeBallots$Comments;", true)
  | 4 => ("CommitteeBallots$State", "settings", "[I", true)
  | _ => ("CommitteeBallots$State", "today", "I", false)
def tyX5 : Nat → FieldType := fun k => match k with
  | 0 => .object "CommitteeBallots$Members"
  | 1 => .object "CommitteeBallots$Document"
  | 2 => .object "CommitteeBallots$Ballot"
  | 3 => .object "CommitteeBallots$Comments"
  | 4 => .array .int
  | _ => .int
abbrev wsX50 : List Cond := u_ws RX5 TX5 6
theorem nmX5 : ∀ a, a < 6 → ∀ b, b < 6 → a ≠ b → (TX5 a).2.1 ≠ (TX5 b).2.1 := by decide +kernel
theorem tyX5_ok : ∀ k, k < 6 → parseFieldDescriptor (TX5 k).2.2.1 = some (tyX5 k) := by decide +kernel
abbrev cX5_init : ByteArray := prog_7_method_1_code
def yX5_init : MethodName := ⟨RX5, "<init>", "()V"⟩
abbrev cX5_copyFrom : ByteArray := prog_7_method_2_code
def yX5_copyFrom : MethodName := ⟨RX5, "copyFrom", "(LCommitteeBallots$State;)V"⟩
abbrev cX5_isLapsed : ByteArray := prog_7_method_3_code
def yX5_isLapsed : MethodName := ⟨RX5, "isLapsed", "(I)Z"⟩
abbrev cX5_activeWeight : ByteArray := prog_7_method_4_code
def yX5_activeWeight : MethodName := ⟨RX5, "activeWeight", "()I"⟩
abbrev cX5_activeWeightIn : ByteArray := prog_7_method_5_code
def yX5_activeWeightIn : MethodName := ⟨RX5, "activeWeightIn", "(I)I"⟩
abbrev cX5_openBallot : ByteArray := prog_7_method_6_code
def yX5_openBallot : MethodName := ⟨RX5, "openBallot", "()V"⟩
abbrev cX5_countVotes : ByteArray := prog_7_method_7_code
def yX5_countVotes : MethodName := ⟨RX5, "countVotes", "()V"⟩
abbrev cX5_sumFor : ByteArray := prog_7_method_8_code
def yX5_sumFor : MethodName := ⟨RX5, "sumFor", "(I)I"⟩
abbrev cX5_isCarriedBy : ByteArray := prog_7_method_9_code
def yX5_isCarriedBy : MethodName := ⟨RX5, "isCarriedBy", "([I)Z"⟩
abbrev cX5_endBallot : ByteArray := prog_7_method_10_code
def yX5_endBallot : MethodName := ⟨RX5, "endBallot", "()V"⟩
abbrev cX5_settle : ByteArray := prog_7_method_11_code
def yX5_settle : MethodName := ⟨RX5, "settle", "(III)V"⟩
abbrev cX5_bringEdition : ByteArray := prog_7_method_12_code
def yX5_bringEdition : MethodName := ⟨RX5, "bringEdition", "()V"⟩
abbrev cX5_reopen : ByteArray := prog_7_method_13_code
def yX5_reopen : MethodName := ⟨RX5, "reopen", "(I)V"⟩
def RX6 : String := "CommitteeBallots$Text"
def TX6 : u_T := fun k => match k with
  | 0 => ("CommitteeBallots$Text", "signs", "[C", true)
  | 1 => ("CommitteeBallots$Text", "length", "I", false)
  | 2 => ("CommitteeBallots$Text", "start", "I", false)
  | 3 => ("CommitteeBallots$Text", "end", "I", false)
  | 4 => ("CommitteeBallots$Text", "clause", "I", false)
  | 5 => ("CommitteeBallots$Text", "kind", "I", false)
  | _ => ("CommitteeBallots$Text", "proposed", "I", false)
def tyX6 : Nat → FieldType := fun k => match k with
  | 0 => .array .char
  | 1 => .int
  | 2 => .int
  | 3 => .int
  | 4 => .int
  | 5 => .int
  | _ => .int
abbrev wsX60 : List Cond := u_ws RX6 TX6 7
theorem nmX6 : ∀ a, a < 7 → ∀ b, b < 7 → a ≠ b → (TX6 a).2.1 ≠ (TX6 b).2.1 := by decide +kernel
theorem tyX6_ok : ∀ k, k < 7 → parseFieldDescriptor (TX6 k).2.2.1 = some (tyX6 k) := by decide +kernel
abbrev cX6_init : ByteArray := prog_8_method_1_code
def yX6_init : MethodName := ⟨RX6, "<init>", "()V"⟩
abbrev cX6_append : ByteArray := prog_8_method_2_code
def yX6_append : MethodName := ⟨RX6, "append", "(C)V"⟩
abbrev cX6_rewind : ByteArray := prog_8_method_3_code
def yX6_rewind : MethodName := ⟨RX6, "rewind", "()V"⟩
abbrev cX6_isAtEnd : ByteArray := prog_8_method_4_code
def yX6_isAtEnd : MethodName := ⟨RX6, "isAtEnd", "()Z"⟩
abbrev cX6_readComment : ByteArray := prog_8_method_5_code
def yX6_readComment : MethodName := ⟨RX6, "readComment", "()Z"⟩
abbrev cX6_signAt : ByteArray := prog_8_method_6_code
def yX6_signAt : MethodName := ⟨RX6, "signAt", "(I)C"⟩
abbrev cX6_digitsAt : ByteArray := prog_8_method_7_code
def yX6_digitsAt : MethodName := ⟨RX6, "digitsAt", "(II)I"⟩
abbrev cX6_numberAt : ByteArray := prog_8_method_8_code
def yX6_numberAt : MethodName := ⟨RX6, "numberAt", "(II)I"⟩
def RX7 : String := "CommitteeBallots"
def TX7 : u_T := fun k => match k with
  | 0 => ("CommitteeBallots", "now", "LCommitteeBallots$State;", true)
  | 1 => ("CommitteeBallots", "history", "LCommitteeBallots$History;", true)
  | _ => ("CommitteeBallots", "text", "LCommitteeBallots$Text;", true)
def tyX7 : Nat → FieldType := fun k => match k with
  | 0 => .object "CommitteeBallots$State"
  | 1 => .object "CommitteeBallots$History"
  | _ => .object "CommitteeBallots$Text"
abbrev wsX70 : List Cond := u_ws RX7 TX7 3
theorem nmX7 : ∀ a, a < 3 → ∀ b, b < 3 → a ≠ b → (TX7 a).2.1 ≠ (TX7 b).2.1 := by decide +kernel
theorem tyX7_ok : ∀ k, k < 3 → parseFieldDescriptor (TX7 k).2.2.1 = some (tyX7 k) := by decide +kernel
abbrev cX7_init : ByteArray := prog_1_method_1_code
def yX7_init : MethodName := ⟨RX7, "<init>", "()V"⟩
abbrev cX7_addMember : ByteArray := prog_1_method_2_code
def yX7_addMember : MethodName := ⟨RX7, "addMember", "(I)I"⟩
abbrev cX7_addClause : ByteArray := prog_1_method_3_code
def yX7_addClause : MethodName := ⟨RX7, "addClause", "(II)I"⟩
abbrev cX7_set : ByteArray := prog_1_method_4_code
def yX7_set : MethodName := ⟨RX7, "set", "(II)I"⟩
abbrev cX7_member : ByteArray := prog_1_method_5_code
def yX7_member : MethodName := ⟨RX7, "member", "(II)I"⟩
abbrev cX7_value : ByteArray := prog_1_method_6_code
def yX7_value : MethodName := ⟨RX7, "value", "(I)I"⟩
abbrev cX7_valueIn : ByteArray := prog_1_method_7_code
def yX7_valueIn : MethodName := ⟨RX7, "valueIn", "(II)I"⟩
abbrev cX7_clause : ByteArray := prog_1_method_8_code
def yX7_clause : MethodName := ⟨RX7, "clause", "(I)I"⟩
abbrev cX7_count : ByteArray := prog_1_method_9_code
def yX7_count : MethodName := ⟨RX7, "count", "(I)I"⟩
abbrev cX7_open : ByteArray := prog_1_method_10_code
def yX7_open : MethodName := ⟨RX7, "open", "()I"⟩
abbrev cX7_vote : ByteArray := prog_1_method_11_code
def yX7_vote : MethodName := ⟨RX7, "vote", "(II)I"⟩
abbrev cX7_pass : ByteArray := prog_1_method_12_code
def yX7_pass : MethodName := ⟨RX7, "pass", "(I)I"⟩
abbrev cX7_tally : ByteArray := prog_1_method_13_code
def yX7_tally : MethodName := ⟨RX7, "tally", "(I)I"⟩
abbrev cX7_lacking : ByteArray := prog_1_method_14_code
def yX7_lacking : MethodName := ⟨RX7, "lacking", "()I"⟩
abbrev cX7_comment : ByteArray := prog_1_method_15_code
def yX7_comment : MethodName := ⟨RX7, "comment", "(IIII)I"⟩
abbrev cX7_told : ByteArray := prog_1_method_16_code
def yX7_told : MethodName := ⟨RX7, "told", "(II)I"⟩
abbrev cX7_next : ByteArray := prog_1_method_17_code
def yX7_next : MethodName := ⟨RX7, "next", "()I"⟩
abbrev cX7_resolve : ByteArray := prog_1_method_18_code
def yX7_resolve : MethodName := ⟨RX7, "resolve", "(II)I"⟩
abbrev cX7_appeal : ByteArray := prog_1_method_19_code
def yX7_appeal : MethodName := ⟨RX7, "appeal", "(III)I"⟩
abbrev cX7_changes : ByteArray := prog_1_method_20_code
def yX7_changes : MethodName := ⟨RX7, "changes", "(I)I"⟩
abbrev cX7_change : ByteArray := prog_1_method_21_code
def yX7_change : MethodName := ⟨RX7, "change", "(III)I"⟩
abbrev cX7_undo : ByteArray := prog_1_method_22_code
def yX7_undo : MethodName := ⟨RX7, "undo", "()I"⟩
abbrev cX7_type : ByteArray := prog_1_method_23_code
def yX7_type : MethodName := ⟨RX7, "type", "(I)I"⟩
abbrev cX7_clearText : ByteArray := prog_1_method_24_code
def yX7_clearText : MethodName := ⟨RX7, "clearText", "()I"⟩
abbrev cX7_fault : ByteArray := prog_1_method_25_code
def yX7_fault : MethodName := ⟨RX7, "fault", "(I)I"⟩
abbrev cX7_enter : ByteArray := prog_1_method_26_code
def yX7_enter : MethodName := ⟨RX7, "enter", "(I)I"⟩
abbrev cX7_firstFault : ByteArray := prog_1_method_27_code
def yX7_firstFault : MethodName := ⟨RX7, "firstFault", "()I"⟩
abbrev cX7_isValue : ByteArray := prog_1_method_28_code
def yX7_isValue : MethodName := ⟨RX7, "isValue", "(I)Z"⟩
abbrev cX7_dividedUp : ByteArray := prog_1_method_29_code
def yX7_dividedUp : MethodName := ⟨RX7, "dividedUp", "(II)I"⟩
abbrev cX7_copyAll : ByteArray := prog_1_method_30_code
def yX7_copyAll : MethodName := ⟨RX7, "copyAll", "([I[I)V"⟩
def RX8 : String := "CommitteeBallotsModel"
def TX8 : u_T := fun k => match k with
  | 0 => ("CommitteeBallotsModel", "now", "[I", true)
  | 1 => ("CommitteeBallotsModel", "past", "[I", true)
  | 2 => ("CommitteeBallotsModel", "saved", "I", false)
  | 3 => ("CommitteeBallotsModel", "text", "[I", true)
  | 4 => ("CommitteeBallotsModel", "length", "I", false)
  | 5 => ("CommitteeBallotsModel", "spot", "I", false)
  | 6 => ("CommitteeBallotsModel", "readClause", "I", false)
  | 7 => ("CommitteeBallotsModel", "readKind", "I", false)
  | 8 => ("CommitteeBallotsModel", "readValue", "I", false)
  | 9 => ("CommitteeBallotsModel", "faultAt", "I", false)
  | 10 => ("CommitteeBallotsModel", "faultWhy", "I", false)
  | _ => ("CommitteeBallotsModel", "readMany", "I", false)
def tyX8 : Nat → FieldType := fun k => match k with
  | 0 => .array .int
  | 1 => .array .int
  | 2 => .int
  | 3 => .array .int
  | 4 => .int
  | 5 => .int
  | 6 => .int
  | 7 => .int
  | 8 => .int
  | 9 => .int
  | 10 => .int
  | _ => .int
abbrev wsX80 : List Cond := u_ws RX8 TX8 12
theorem nmX8 : ∀ a, a < 12 → ∀ b, b < 12 → a ≠ b → (TX8 a).2.1 ≠ (TX8 b).2.1 := by decide +kernel
theorem tyX8_ok : ∀ k, k < 12 → parseFieldDescriptor (TX8 k).2.2.1 = some (tyX8 k) := by decide +kernel
abbrev cX8_init : ByteArray := prog_10_method_1_code
def yX8_init : MethodName := ⟨RX8, "<init>", "()V"⟩
abbrev cX8_in : ByteArray := prog_10_method_2_code
def yX8_in : MethodName := ⟨RX8, "in", "(III)Z"⟩
abbrev cX8_records : ByteArray := prog_10_method_3_code
def yX8_records : MethodName := ⟨RX8, "records", "()V"⟩
abbrev cX8_undo : ByteArray := prog_10_method_4_code
def yX8_undo : MethodName := ⟨RX8, "undo", "()I"⟩
abbrev cX8_isMember : ByteArray := prog_10_method_5_code
def yX8_isMember : MethodName := ⟨RX8, "isMember", "(I)Z"⟩
abbrev cX8_memberAt : ByteArray := prog_10_method_6_code
def yX8_memberAt : MethodName := ⟨RX8, "memberAt", "(I)I"⟩
abbrev cX8_isLapsed : ByteArray := prog_10_method_7_code
def yX8_isLapsed : MethodName := ⟨RX8, "isLapsed", "(I)Z"⟩
abbrev cX8_addMember : ByteArray := prog_10_method_8_code
def yX8_addMember : MethodName := ⟨RX8, "addMember", "(I)I"⟩
abbrev cX8_clauseAt : ByteArray := prog_10_method_9_code
def yX8_clauseAt : MethodName := ⟨RX8, "clauseAt", "(I)I"⟩
abbrev cX8_indexOf : ByteArray := prog_10_method_10_code
def yX8_indexOf : MethodName := ⟨RX8, "indexOf", "(I)I"⟩
abbrev cX8_isValue : ByteArray := prog_10_method_11_code
def yX8_isValue : MethodName := ⟨RX8, "isValue", "(I)Z"⟩
abbrev cX8_addClause : ByteArray := prog_10_method_12_code
def yX8_addClause : MethodName := ⟨RX8, "addClause", "(II)I"⟩
abbrev cX8_isSetting : ByteArray := prog_10_method_13_code
def yX8_isSetting : MethodName := ⟨RX8, "isSetting", "(II)Z"⟩
abbrev cX8_set : ByteArray := prog_10_method_14_code
def yX8_set : MethodName := ⟨RX8, "set", "(II)I"⟩
abbrev cX8_commentsOf : ByteArray := prog_10_method_15_code
def yX8_commentsOf : MethodName := ⟨RX8, "commentsOf", "(I)I"⟩
abbrev cX8_member : ByteArray := prog_10_method_16_code
def yX8_member : MethodName := ⟨RX8, "member", "(II)I"⟩
abbrev cX8_value : ByteArray := prog_10_method_17_code
def yX8_value : MethodName := ⟨RX8, "value", "(I)I"⟩
abbrev cX8_isEdition : ByteArray := prog_10_method_18_code
def yX8_isEdition : MethodName := ⟨RX8, "isEdition", "(I)Z"⟩
abbrev cX8_valueIn : ByteArray := prog_10_method_19_code
def yX8_valueIn : MethodName := ⟨RX8, "valueIn", "(II)I"⟩
abbrev cX8_clause : ByteArray := prog_10_method_20_code
def yX8_clause : MethodName := ⟨RX8, "clause", "(I)I"⟩
abbrev cX8_activeWeight : ByteArray := prog_10_method_21_code
def yX8_activeWeight : MethodName := ⟨RX8, "activeWeight", "()I"⟩
abbrev cX8_pending : ByteArray := prog_10_method_22_code
def yX8_pending : MethodName := ⟨RX8, "pending", "()I"⟩
abbrev cX8_count : ByteArray := prog_10_method_23_code
def yX8_count : MethodName := ⟨RX8, "count", "(I)I"⟩
abbrev cX8_open : ByteArray := prog_10_method_24_code
def yX8_open : MethodName := ⟨RX8, "open", "()I"⟩
abbrev cX8_vote : ByteArray := prog_10_method_25_code
def yX8_vote : MethodName := ⟨RX8, "vote", "(II)I"⟩
abbrev cX8_isTechnical : ByteArray := prog_10_method_26_code
def yX8_isTechnical : MethodName := ⟨RX8, "isTechnical", "(I)Z"⟩
abbrev cX8_carries : ByteArray := prog_10_method_27_code
def yX8_carries : MethodName := ⟨RX8, "carries", "(IIII)Z"⟩
abbrev cX8_tallies : ByteArray := prog_10_method_28_code
def yX8_tallies : MethodName := ⟨RX8, "tallies", "()V"⟩
abbrev cX8_ends : ByteArray := prog_10_method_29_code
def yX8_ends : MethodName := ⟨RX8, "ends", "()Z"⟩
abbrev cX8_pass : ByteArray := prog_10_method_30_code
def yX8_pass : MethodName := ⟨RX8, "pass", "(I)I"⟩
abbrev cX8_tally : ByteArray := prog_10_method_31_code
def yX8_tally : MethodName := ⟨RX8, "tally", "(I)I"⟩
abbrev cX8_lacking : ByteArray := prog_10_method_32_code
def yX8_lacking : MethodName := ⟨RX8, "lacking", "()I"⟩
abbrev cX8_commentAt : ByteArray := prog_10_method_33_code
def yX8_commentAt : MethodName := ⟨RX8, "commentAt", "(I)I"⟩
abbrev cX8_isComment : ByteArray := prog_10_method_34_code
def yX8_isComment : MethodName := ⟨RX8, "isComment", "(I)Z"⟩
abbrev cX8_comes : ByteArray := prog_10_method_35_code
def yX8_comes : MethodName := ⟨RX8, "comes", "(IIII)I"⟩
abbrev cX8_comment : ByteArray := prog_10_method_36_code
def yX8_comment : MethodName := ⟨RX8, "comment", "(IIII)I"⟩
abbrev cX8_told : ByteArray := prog_10_method_37_code
def yX8_told : MethodName := ⟨RX8, "told", "(II)I"⟩
abbrev cX8_isAhead : ByteArray := prog_10_method_38_code
def yX8_isAhead : MethodName := ⟨RX8, "isAhead", "(II)Z"⟩
abbrev cX8_next : ByteArray := prog_10_method_39_code
def yX8_next : MethodName := ⟨RX8, "next", "()I"⟩
abbrev cX8_canGet : ByteArray := prog_10_method_40_code
def yX8_canGet : MethodName := ⟨RX8, "canGet", "(II)Z"⟩
abbrev cX8_giver : ByteArray := prog_10_method_41_code
def yX8_giver : MethodName := ⟨RX8, "giver", "(II)I"⟩
abbrev cX8_comesEdition : ByteArray := prog_10_method_42_code
def yX8_comesEdition : MethodName := ⟨RX8, "comesEdition", "()V"⟩
abbrev cX8_resolve : ByteArray := prog_10_method_43_code
def yX8_resolve : MethodName := ⟨RX8, "resolve", "(II)I"⟩
abbrev cX8_reopens : ByteArray := prog_10_method_44_code
def yX8_reopens : MethodName := ⟨RX8, "reopens", "(I)V"⟩
abbrev cX8_appeal : ByteArray := prog_10_method_45_code
def yX8_appeal : MethodName := ⟨RX8, "appeal", "(III)I"⟩
abbrev cX8_isChanged : ByteArray := prog_10_method_46_code
def yX8_isChanged : MethodName := ⟨RX8, "isChanged", "(II)Z"⟩
abbrev cX8_changes : ByteArray := prog_10_method_47_code
def yX8_changes : MethodName := ⟨RX8, "changes", "(I)I"⟩
abbrev cX8_change : ByteArray := prog_10_method_48_code
def yX8_change : MethodName := ⟨RX8, "change", "(III)I"⟩
abbrev cX8_type : ByteArray := prog_10_method_49_code
def yX8_type : MethodName := ⟨RX8, "type", "(I)I"⟩
abbrev cX8_clearText : ByteArray := prog_10_method_50_code
def yX8_clearText : MethodName := ⟨RX8, "clearText", "()I"⟩
abbrev cX8_here : ByteArray := prog_10_method_51_code
def yX8_here : MethodName := ⟨RX8, "here", "()I"⟩
abbrev cX8_readNumber : ByteArray := prog_10_method_52_code
def yX8_readNumber : MethodName := ⟨RX8, "readNumber", "(I)I"⟩
abbrev cX8_takes : ByteArray := prog_10_method_53_code
def yX8_takes : MethodName := ⟨RX8, "takes", "(I)Z"⟩
abbrev cX8_readsComment : ByteArray := prog_10_method_54_code
def yX8_readsComment : MethodName := ⟨RX8, "readsComment", "()Z"⟩
abbrev cX8_hasFault : ByteArray := prog_10_method_55_code
def yX8_hasFault : MethodName := ⟨RX8, "hasFault", "()Z"⟩
abbrev cX8_fault : ByteArray := prog_10_method_56_code
def yX8_fault : MethodName := ⟨RX8, "fault", "(I)I"⟩
abbrev cX8_enter : ByteArray := prog_10_method_57_code
def yX8_enter : MethodName := ⟨RX8, "enter", "(I)I"⟩
def RJx8e188 : String := "java/lang/Cloneable"
def TJx8e188 : u_T := fun k => match k with
  | _ => ("", "", "", false)
def tyJx8e188 : Nat → FieldType := fun k => match k with
  | _ => .int
abbrev wsJx8e1880 : List Cond := u_ws RJx8e188 TJx8e188 0
theorem nmJx8e188 : ∀ a, a < 0 → ∀ b, b < 0 → a ≠ b → (TJx8e188 a).2.1 ≠ (TJx8e188 b).2.1 := by decide +kernel
theorem tyJx8e188_ok : ∀ k, k < 0 → parseFieldDescriptor (TJx8e188 k).2.2.1 = some (tyJx8e188 k) := by decide +kernel
def RJ9 : String := "java/lang/Math"
def TJ9 : u_T := fun k => match k with
  | _ => ("", "", "", false)
def tyJ9 : Nat → FieldType := fun k => match k with
  | _ => .int
abbrev wsJ90 : List Cond := u_ws RJ9 TJ9 0
theorem nmJ9 : ∀ a, a < 0 → ∀ b, b < 0 → a ≠ b → (TJ9 a).2.1 ≠ (TJ9 b).2.1 := by decide +kernel
theorem tyJ9_ok : ∀ k, k < 0 → parseFieldDescriptor (TJ9 k).2.2.1 = some (tyJ9 k) := by decide +kernel
abbrev cJ9_max_7cf53 : ByteArray := prog_12_method_65_code
def yJ9_max_7cf53 : MethodName := ⟨RJ9, "max", "(II)I"⟩
abbrev cJ9_min_7cf53 : ByteArray := prog_12_method_69_code
def yJ9_min_7cf53 : MethodName := ⟨RJ9, "min", "(II)I"⟩
def RJ10 : String := "java/lang/System"
def TJ10 : u_T := fun k => match k with
  | _ => ("", "", "", false)
def tyJ10 : Nat → FieldType := fun k => match k with
  | _ => .int
abbrev wsJ100 : List Cond := u_ws RJ10 TJ10 0
theorem nmJ10 : ∀ a, a < 0 → ∀ b, b < 0 → a ≠ b → (TJ10 a).2.1 ≠ (TJ10 b).2.1 := by decide +kernel
theorem tyJ10_ok : ∀ k, k < 0 → parseFieldDescriptor (TJ10 k).2.2.1 = some (tyJ10 k) := by decide +kernel
def RJ7 : String := "java/util/Arrays"
def TJ7 : u_T := fun k => match k with
  | _ => ("", "", "", false)
def tyJ7 : Nat → FieldType := fun k => match k with
  | _ => .int
abbrev wsJ70 : List Cond := u_ws RJ7 TJ7 0
theorem nmJ7 : ∀ a, a < 0 → ∀ b, b < 0 → a ≠ b → (TJ7 a).2.1 ≠ (TJ7 b).2.1 := by decide +kernel
theorem tyJ7_ok : ∀ k, k < 0 → parseFieldDescriptor (TJ7 k).2.2.1 = some (tyJ7 k) := by decide +kernel
abbrev cJ7_fill_53178 : ByteArray := prog_14_method_103_code
def yJ7_fill_53178 : MethodName := ⟨RJ7, "fill", "([II)V"⟩
def RL : String := "CommitteeBallotsLaw"
abbrev cL_law : ByteArray := code
def yL_law : MethodName := ⟨RL, "law", "([I)Z"⟩
abbrev vwCl : List vw_C := [(RX0, TX0, 5), (RX1, TX1, 10), (RX2, TX2, 8), (RX3, TX3, 3), (RX4, TX4, 5), (RX5, TX5, 6), (RX6, TX6, 7), (RX7, TX7, 3), (RX8, TX8, 12)]
end
section
def gW : List Cond := lw_tbl.filter goodWord
theorem gW_hts {args : Array Value} {s : State} (h : ∀ w ∈ lw_tbl, w.before args s = true) : ∀ w ∈ gW, w.before args s = true := fun w hw => h w (List.mem_filter.mp hw).1
theorem gW_1 {w : Cond} (h : w ∈ tables_1_1) (hg : goodWord w = true) : w ∈ gW := List.mem_filter.mpr ⟨List.mem_append_right _ (List.mem_append_left _ h), hg⟩
theorem gW_2 {w : Cond} (h : w ∈ tables_1_2) (hg : goodWord w = true) : w ∈ gW := List.mem_filter.mpr ⟨List.mem_append_right _ (List.mem_append_right _ (List.mem_append_left _ h)), hg⟩
theorem gW_3 {w : Cond} (h : w ∈ tables_1_3) (hg : goodWord w = true) : w ∈ gW := List.mem_filter.mpr ⟨List.mem_append_right _ (List.mem_append_right _ (List.mem_append_right _ (List.mem_append_left _ h))), hg⟩
theorem gW_4 {w : Cond} (h : w ∈ tables_1_4) (hg : goodWord w = true) : w ∈ gW := List.mem_filter.mpr ⟨List.mem_append_right _ (List.mem_append_right _ (List.mem_append_right _ (List.mem_append_right _ h))), hg⟩
theorem gW_p {q : MethodName × Nat} (h : q ∈ lw_privs) : Cond.selects q.1.cls q.1 q.1 ∈ gW := List.mem_filter.mpr ⟨List.mem_append_left _ (List.mem_map.mpr ⟨q, h, rfl⟩), rfl⟩
theorem gW_p1 {q : MethodName × Nat} (h : q ∈ lw_privs_1) : Cond.selects q.1.cls q.1 q.1 ∈ gW := gW_p (List.mem_append_left _ h)
theorem gW_p2 {q : MethodName × Nat} (h : q ∈ lw_privs_2) : Cond.selects q.1.cls q.1 q.1 ∈ gW := gW_p (List.mem_append_right _ (List.mem_append_left _ h))
theorem gW_p3 {q : MethodName × Nat} (h : q ∈ lw_privs_3) : Cond.selects q.1.cls q.1 q.1 ∈ gW := gW_p (List.mem_append_right _ (List.mem_append_right _ h))
theorem gW_good : GoodIn gW gW := fun w hw => ⟨hw, good_of_word (List.mem_filter.mp hw).2⟩
def gC (y : MethodName) (cc : ByteArray) (n : Nat) (ret : Option FieldType) : List Cond := .code y cc n ret :: gW
theorem gC_good {y z : MethodName} {cy cz : ByteArray} {ny nz : Nat} {ry rz : Option FieldType} (h : Cond.code z cz nz rz ∈ gW) : GoodIn (gC y cy ny ry) (gC z cz nz rz) := by
  intro w hw
  have hw' : w ∈ gW := by
    rcases List.mem_cons.mp hw with rfl | hw
    · exact h
    · exact hw
  exact ⟨List.mem_cons_of_mem _ hw', (gW_good w hw').2⟩
theorem gC_goodW {z : MethodName} {cz : ByteArray} {nz : Nat} {rz : Option FieldType} (h : Cond.code z cz nz rz ∈ gW) : GoodIn gW (gC z cz nz rz) := by
  intro w hw
  have hw' : w ∈ gW := by
    rcases List.mem_cons.mp hw with rfl | hw
    · exact h
    · exact hw
  exact ⟨hw', (gW_good w hw').2⟩

theorem wi_L : Cond.initialized RL ∈ gW := gW_1 (List.mem_of_getElem? (i := 0) rfl) rfl
theorem wi_X7 : Cond.initialized RX7 ∈ gW := gW_1 (List.mem_of_getElem? (i := 1) rfl) rfl
theorem wi_X5 : Cond.initialized RX5 ∈ gW := gW_1 (List.mem_of_getElem? (i := 2) rfl) rfl
theorem wi_X4 : Cond.initialized RX4 ∈ gW := gW_1 (List.mem_of_getElem? (i := 3) rfl) rfl
theorem wi_X2 : Cond.initialized RX2 ∈ gW := gW_1 (List.mem_of_getElem? (i := 4) rfl) rfl
theorem wi_X0 : Cond.initialized RX0 ∈ gW := gW_1 (List.mem_of_getElem? (i := 5) rfl) rfl
theorem wi_X1 : Cond.initialized RX1 ∈ gW := gW_1 (List.mem_of_getElem? (i := 6) rfl) rfl
theorem wi_X3 : Cond.initialized RX3 ∈ gW := gW_1 (List.mem_of_getElem? (i := 7) rfl) rfl
theorem wi_X6 : Cond.initialized RX6 ∈ gW := gW_1 (List.mem_of_getElem? (i := 8) rfl) rfl
theorem wi_X8 : Cond.initialized RX8 ∈ gW := gW_1 (List.mem_of_getElem? (i := 9) rfl) rfl
theorem wi_J9 : Cond.initialized RJ9 ∈ gW := gW_1 (List.mem_of_getElem? (i := 10) rfl) rfl
theorem wi_J10 : Cond.initialized RJ10 ∈ gW := gW_1 (List.mem_of_getElem? (i := 11) rfl) rfl
theorem wi_J7 : Cond.initialized RJ7 ∈ gW := gW_1 (List.mem_of_getElem? (i := 12) rfl) rfl
theorem wc_X7_init : Cond.code yX7_init cX7_init 1 none ∈ gW := gW_1 (List.mem_of_getElem? (i := 17) rfl) rfl
theorem wm_X7_init : Cond.instanceMethod yX7_init ∈ gW := gW_1 (List.mem_of_getElem? (i := 16) rfl) rfl
theorem wc_X5_init : Cond.code yX5_init cX5_init 1 none ∈ gW := gW_1 (List.mem_of_getElem? (i := 25) rfl) rfl
theorem wm_X5_init : Cond.instanceMethod yX5_init ∈ gW := gW_1 (List.mem_of_getElem? (i := 24) rfl) rfl
theorem wc_X4_init : Cond.code yX4_init cX4_init 1 none ∈ gW := gW_1 (List.mem_of_getElem? (i := 31) rfl) rfl
theorem wm_X4_init : Cond.instanceMethod yX4_init ∈ gW := gW_1 (List.mem_of_getElem? (i := 30) rfl) rfl
theorem wc_X2_init : Cond.code yX2_init cX2_init 1 none ∈ gW := gW_1 (List.mem_of_getElem? (i := 64) rfl) rfl
theorem wm_X2_init : Cond.instanceMethod yX2_init ∈ gW := gW_1 (List.mem_of_getElem? (i := 63) rfl) rfl
theorem wc_X0_init : Cond.code yX0_init cX0_init 1 none ∈ gW := gW_1 (List.mem_of_getElem? (i := 109) rfl) rfl
theorem wm_X0_init : Cond.instanceMethod yX0_init ∈ gW := gW_1 (List.mem_of_getElem? (i := 108) rfl) rfl
theorem wc_X1_init : Cond.code yX1_init cX1_init 1 none ∈ gW := gW_1 (List.mem_of_getElem? (i := 140) rfl) rfl
theorem wm_X1_init : Cond.instanceMethod yX1_init ∈ gW := gW_1 (List.mem_of_getElem? (i := 139) rfl) rfl
theorem wc_X3_init : Cond.code yX3_init cX3_init 2 none ∈ gW := gW_1 (List.mem_of_getElem? (i := 223) rfl) rfl
theorem wm_X3_init : Cond.instanceMethod yX3_init ∈ gW := gW_1 (List.mem_of_getElem? (i := 222) rfl) rfl
theorem wc_X6_init : Cond.code yX6_init cX6_init 1 none ∈ gW := gW_2 (List.mem_of_getElem? (i := 3) rfl) rfl
theorem wm_X6_init : Cond.instanceMethod yX6_init ∈ gW := gW_2 (List.mem_of_getElem? (i := 2) rfl) rfl
theorem wc_X7_addMember : Cond.code yX7_addMember cX7_addMember 2 (some .int) ∈ gW := gW_2 (List.mem_of_getElem? (i := 46) rfl) rfl
theorem wm_X7_addMember : Cond.instanceMethod yX7_addMember ∈ gW := gW_2 (List.mem_of_getElem? (i := 44) rfl) rfl
theorem wl_X7_addMember : Cond.selects RX7 yX7_addMember yX7_addMember ∈ gW := gW_2 (List.mem_of_getElem? (i := 45) rfl) rfl
theorem wc_X3_keep : Cond.code yX3_keep cX3_keep 2 none ∈ gW := gW_2 (List.mem_of_getElem? (i := 50) rfl) rfl
theorem wm_X3_keep : Cond.instanceMethod yX3_keep ∈ gW := gW_2 (List.mem_of_getElem? (i := 48) rfl) rfl
theorem wl_X3_keep : Cond.selects RX3 yX3_keep yX3_keep ∈ gW := gW_2 (List.mem_of_getElem? (i := 49) rfl) rfl
theorem wc_X5_copyFrom : Cond.code yX5_copyFrom cX5_copyFrom 2 none ∈ gW := gW_2 (List.mem_of_getElem? (i := 54) rfl) rfl
theorem wm_X5_copyFrom : Cond.instanceMethod yX5_copyFrom ∈ gW := gW_2 (List.mem_of_getElem? (i := 52) rfl) rfl
theorem wl_X5_copyFrom : Cond.selects RX5 yX5_copyFrom yX5_copyFrom ∈ gW := gW_2 (List.mem_of_getElem? (i := 53) rfl) rfl
theorem wc_X4_copyFrom : Cond.code yX4_copyFrom cX4_copyFrom 2 none ∈ gW := gW_2 (List.mem_of_getElem? (i := 58) rfl) rfl
theorem wm_X4_copyFrom : Cond.instanceMethod yX4_copyFrom ∈ gW := gW_2 (List.mem_of_getElem? (i := 56) rfl) rfl
theorem wl_X4_copyFrom : Cond.selects RX4 yX4_copyFrom yX4_copyFrom ∈ gW := gW_2 (List.mem_of_getElem? (i := 57) rfl) rfl
theorem wc_X7_copyAll : Cond.code yX7_copyAll cX7_copyAll 2 none ∈ gW := gW_2 (List.mem_of_getElem? (i := 61) rfl) rfl
theorem ws_X7_copyAll : Cond.static yX7_copyAll ∈ gW := gW_2 (List.mem_of_getElem? (i := 60) rfl) rfl
theorem wc_J9_min_7cf53 : Cond.code yJ9_min_7cf53 cJ9_min_7cf53 2 (some .int) ∈ gW := gW_2 (List.mem_of_getElem? (i := 64) rfl) rfl
theorem ws_J9_min_7cf53 : Cond.static yJ9_min_7cf53 ∈ gW := gW_2 (List.mem_of_getElem? (i := 63) rfl) rfl
theorem wc_X2_copyFrom : Cond.code yX2_copyFrom cX2_copyFrom 2 none ∈ gW := gW_2 (List.mem_of_getElem? (i := 71) rfl) rfl
theorem wm_X2_copyFrom : Cond.instanceMethod yX2_copyFrom ∈ gW := gW_2 (List.mem_of_getElem? (i := 69) rfl) rfl
theorem wl_X2_copyFrom : Cond.selects RX2 yX2_copyFrom yX2_copyFrom ∈ gW := gW_2 (List.mem_of_getElem? (i := 70) rfl) rfl
theorem wc_X0_copyFrom : Cond.code yX0_copyFrom cX0_copyFrom 2 none ∈ gW := gW_2 (List.mem_of_getElem? (i := 76) rfl) rfl
theorem wm_X0_copyFrom : Cond.instanceMethod yX0_copyFrom ∈ gW := gW_2 (List.mem_of_getElem? (i := 74) rfl) rfl
theorem wl_X0_copyFrom : Cond.selects RX0 yX0_copyFrom yX0_copyFrom ∈ gW := gW_2 (List.mem_of_getElem? (i := 75) rfl) rfl
theorem wc_X1_copyFrom : Cond.code yX1_copyFrom cX1_copyFrom 2 none ∈ gW := gW_2 (List.mem_of_getElem? (i := 81) rfl) rfl
theorem wm_X1_copyFrom : Cond.instanceMethod yX1_copyFrom ∈ gW := gW_2 (List.mem_of_getElem? (i := 79) rfl) rfl
theorem wl_X1_copyFrom : Cond.selects RX1 yX1_copyFrom yX1_copyFrom ∈ gW := gW_2 (List.mem_of_getElem? (i := 80) rfl) rfl
theorem wc_X4_append : Cond.code yX4_append cX4_append 2 (some .int) ∈ gW := gW_2 (List.mem_of_getElem? (i := 87) rfl) rfl
theorem wm_X4_append : Cond.instanceMethod yX4_append ∈ gW := gW_2 (List.mem_of_getElem? (i := 85) rfl) rfl
theorem wl_X4_append : Cond.selects RX4 yX4_append yX4_append ∈ gW := gW_2 (List.mem_of_getElem? (i := 86) rfl) rfl
theorem wc_X7_addClause : Cond.code yX7_addClause cX7_addClause 3 (some .int) ∈ gW := gW_2 (List.mem_of_getElem? (i := 91) rfl) rfl
theorem wm_X7_addClause : Cond.instanceMethod yX7_addClause ∈ gW := gW_2 (List.mem_of_getElem? (i := 89) rfl) rfl
theorem wl_X7_addClause : Cond.selects RX7 yX7_addClause yX7_addClause ∈ gW := gW_2 (List.mem_of_getElem? (i := 90) rfl) rfl
theorem wc_X7_isValue : Cond.code yX7_isValue cX7_isValue 1 (some .boolean) ∈ gW := gW_2 (List.mem_of_getElem? (i := 94) rfl) rfl
theorem ws_X7_isValue : Cond.static yX7_isValue ∈ gW := gW_2 (List.mem_of_getElem? (i := 93) rfl) rfl
theorem wc_X2_find : Cond.code yX2_find cX2_find 3 (some .int) ∈ gW := gW_2 (List.mem_of_getElem? (i := 98) rfl) rfl
theorem wm_X2_find : Cond.instanceMethod yX2_find ∈ gW := gW_2 (List.mem_of_getElem? (i := 96) rfl) rfl
theorem wl_X2_find : Cond.selects RX2 yX2_find yX2_find ∈ gW := gW_2 (List.mem_of_getElem? (i := 97) rfl) rfl
theorem wc_X2_insert : Cond.code yX2_insert cX2_insert 4 none ∈ gW := gW_2 (List.mem_of_getElem? (i := 102) rfl) rfl
theorem wm_X2_insert : Cond.instanceMethod yX2_insert ∈ gW := gW_2 (List.mem_of_getElem? (i := 100) rfl) rfl
theorem wl_X2_insert : Cond.selects RX2 yX2_insert yX2_insert ∈ gW := gW_2 (List.mem_of_getElem? (i := 101) rfl) rfl
theorem wc_X2_slot : Cond.code yX2_slot cX2_slot 2 (some .int) ∈ gW := gW_2 (List.mem_of_getElem? (i := 105) rfl) rfl
theorem ws_X2_slot : Cond.static yX2_slot ∈ gW := gW_2 (List.mem_of_getElem? (i := 104) rfl) rfl
theorem wc_X7_set : Cond.code yX7_set cX7_set 4 (some .int) ∈ gW := gW_2 (List.mem_of_getElem? (i := 109) rfl) rfl
theorem wm_X7_set : Cond.instanceMethod yX7_set ∈ gW := gW_2 (List.mem_of_getElem? (i := 107) rfl) rfl
theorem wl_X7_set : Cond.selects RX7 yX7_set yX7_set ∈ gW := gW_2 (List.mem_of_getElem? (i := 108) rfl) rfl
theorem wc_X7_member : Cond.code yX7_member cX7_member 3 (some .int) ∈ gW := gW_2 (List.mem_of_getElem? (i := 117) rfl) rfl
theorem wm_X7_member : Cond.instanceMethod yX7_member ∈ gW := gW_2 (List.mem_of_getElem? (i := 115) rfl) rfl
theorem wl_X7_member : Cond.selects RX7 yX7_member yX7_member ∈ gW := gW_2 (List.mem_of_getElem? (i := 116) rfl) rfl
theorem wc_X4_has : Cond.code yX4_has cX4_has 2 (some .boolean) ∈ gW := gW_2 (List.mem_of_getElem? (i := 121) rfl) rfl
theorem wm_X4_has : Cond.instanceMethod yX4_has ∈ gW := gW_2 (List.mem_of_getElem? (i := 119) rfl) rfl
theorem wl_X4_has : Cond.selects RX4 yX4_has yX4_has ∈ gW := gW_2 (List.mem_of_getElem? (i := 120) rfl) rfl
theorem wc_X5_isLapsed : Cond.code yX5_isLapsed cX5_isLapsed 2 (some .boolean) ∈ gW := gW_2 (List.mem_of_getElem? (i := 125) rfl) rfl
theorem wm_X5_isLapsed : Cond.instanceMethod yX5_isLapsed ∈ gW := gW_2 (List.mem_of_getElem? (i := 123) rfl) rfl
theorem wl_X5_isLapsed : Cond.selects RX5 yX5_isLapsed yX5_isLapsed ∈ gW := gW_2 (List.mem_of_getElem? (i := 124) rfl) rfl
theorem wc_X4_hasVoted : Cond.code yX4_hasVoted cX4_hasVoted 2 (some .boolean) ∈ gW := gW_2 (List.mem_of_getElem? (i := 129) rfl) rfl
theorem wm_X4_hasVoted : Cond.instanceMethod yX4_hasVoted ∈ gW := gW_2 (List.mem_of_getElem? (i := 127) rfl) rfl
theorem wl_X4_hasVoted : Cond.selects RX4 yX4_hasVoted yX4_hasVoted ∈ gW := gW_2 (List.mem_of_getElem? (i := 128) rfl) rfl
theorem wc_X1_numberOf : Cond.code yX1_numberOf cX1_numberOf 4 (some .int) ∈ gW := gW_2 (List.mem_of_getElem? (i := 133) rfl) rfl
theorem wm_X1_numberOf : Cond.instanceMethod yX1_numberOf ∈ gW := gW_2 (List.mem_of_getElem? (i := 131) rfl) rfl
theorem wl_X1_numberOf : Cond.selects RX1 yX1_numberOf yX1_numberOf ∈ gW := gW_2 (List.mem_of_getElem? (i := 132) rfl) rfl
theorem wc_X7_value : Cond.code yX7_value cX7_value 3 (some .int) ∈ gW := gW_2 (List.mem_of_getElem? (i := 137) rfl) rfl
theorem wm_X7_value : Cond.instanceMethod yX7_value ∈ gW := gW_2 (List.mem_of_getElem? (i := 135) rfl) rfl
theorem wl_X7_value : Cond.selects RX7 yX7_value yX7_value ∈ gW := gW_2 (List.mem_of_getElem? (i := 136) rfl) rfl
theorem wc_X7_valueIn : Cond.code yX7_valueIn cX7_valueIn 4 (some .int) ∈ gW := gW_2 (List.mem_of_getElem? (i := 141) rfl) rfl
theorem wm_X7_valueIn : Cond.instanceMethod yX7_valueIn ∈ gW := gW_2 (List.mem_of_getElem? (i := 139) rfl) rfl
theorem wl_X7_valueIn : Cond.selects RX7 yX7_valueIn yX7_valueIn ∈ gW := gW_2 (List.mem_of_getElem? (i := 140) rfl) rfl
theorem wc_X2_hasEdition : Cond.code yX2_hasEdition cX2_hasEdition 2 (some .boolean) ∈ gW := gW_2 (List.mem_of_getElem? (i := 145) rfl) rfl
theorem wm_X2_hasEdition : Cond.instanceMethod yX2_hasEdition ∈ gW := gW_2 (List.mem_of_getElem? (i := 143) rfl) rfl
theorem wl_X2_hasEdition : Cond.selects RX2 yX2_hasEdition yX2_hasEdition ∈ gW := gW_2 (List.mem_of_getElem? (i := 144) rfl) rfl
theorem wc_X7_clause : Cond.code yX7_clause cX7_clause 2 (some .int) ∈ gW := gW_2 (List.mem_of_getElem? (i := 150) rfl) rfl
theorem wm_X7_clause : Cond.instanceMethod yX7_clause ∈ gW := gW_2 (List.mem_of_getElem? (i := 148) rfl) rfl
theorem wl_X7_clause : Cond.selects RX7 yX7_clause yX7_clause ∈ gW := gW_2 (List.mem_of_getElem? (i := 149) rfl) rfl
theorem wc_X7_count : Cond.code yX7_count cX7_count 2 (some .int) ∈ gW := gW_2 (List.mem_of_getElem? (i := 154) rfl) rfl
theorem wm_X7_count : Cond.instanceMethod yX7_count ∈ gW := gW_2 (List.mem_of_getElem? (i := 152) rfl) rfl
theorem wl_X7_count : Cond.selects RX7 yX7_count yX7_count ∈ gW := gW_2 (List.mem_of_getElem? (i := 153) rfl) rfl
theorem wc_X1_pending : Cond.code yX1_pending cX1_pending 3 (some .int) ∈ gW := gW_2 (List.mem_of_getElem? (i := 158) rfl) rfl
theorem wm_X1_pending : Cond.instanceMethod yX1_pending ∈ gW := gW_2 (List.mem_of_getElem? (i := 156) rfl) rfl
theorem wl_X1_pending : Cond.selects RX1 yX1_pending yX1_pending ∈ gW := gW_2 (List.mem_of_getElem? (i := 157) rfl) rfl
theorem wc_X5_activeWeight : Cond.code yX5_activeWeight cX5_activeWeight 1 (some .int) ∈ gW := gW_2 (List.mem_of_getElem? (i := 162) rfl) rfl
theorem wm_X5_activeWeight : Cond.instanceMethod yX5_activeWeight ∈ gW := gW_2 (List.mem_of_getElem? (i := 160) rfl) rfl
theorem wl_X5_activeWeight : Cond.selects RX5 yX5_activeWeight yX5_activeWeight ∈ gW := gW_2 (List.mem_of_getElem? (i := 161) rfl) rfl
theorem wc_X5_activeWeightIn : Cond.code yX5_activeWeightIn cX5_activeWeightIn 4 (some .int) ∈ gW := gW_2 (List.mem_of_getElem? (i := 166) rfl) rfl
theorem wm_X5_activeWeightIn : Cond.instanceMethod yX5_activeWeightIn ∈ gW := gW_2 (List.mem_of_getElem? (i := 164) rfl) rfl
theorem wl_X5_activeWeightIn : Cond.selects RX5 yX5_activeWeightIn yX5_activeWeightIn ∈ gW := gW_2 (List.mem_of_getElem? (i := 165) rfl) rfl
theorem wc_X7_open : Cond.code yX7_open cX7_open 1 (some .int) ∈ gW := gW_2 (List.mem_of_getElem? (i := 171) rfl) rfl
theorem wm_X7_open : Cond.instanceMethod yX7_open ∈ gW := gW_2 (List.mem_of_getElem? (i := 169) rfl) rfl
theorem wl_X7_open : Cond.selects RX7 yX7_open yX7_open ∈ gW := gW_2 (List.mem_of_getElem? (i := 170) rfl) rfl
theorem wc_X5_openBallot : Cond.code yX5_openBallot cX5_openBallot 1 none ∈ gW := gW_2 (List.mem_of_getElem? (i := 175) rfl) rfl
theorem wm_X5_openBallot : Cond.instanceMethod yX5_openBallot ∈ gW := gW_2 (List.mem_of_getElem? (i := 173) rfl) rfl
theorem wl_X5_openBallot : Cond.selects RX5 yX5_openBallot yX5_openBallot ∈ gW := gW_2 (List.mem_of_getElem? (i := 174) rfl) rfl
theorem wc_J7_fill_53178 : Cond.code yJ7_fill_53178 cJ7_fill_53178 4 none ∈ gW := gW_2 (List.mem_of_getElem? (i := 178) rfl) rfl
theorem ws_J7_fill_53178 : Cond.static yJ7_fill_53178 ∈ gW := gW_2 (List.mem_of_getElem? (i := 177) rfl) rfl
theorem wc_X7_vote : Cond.code yX7_vote cX7_vote 3 (some .int) ∈ gW := gW_2 (List.mem_of_getElem? (i := 182) rfl) rfl
theorem wm_X7_vote : Cond.instanceMethod yX7_vote ∈ gW := gW_2 (List.mem_of_getElem? (i := 180) rfl) rfl
theorem wl_X7_vote : Cond.selects RX7 yX7_vote yX7_vote ∈ gW := gW_2 (List.mem_of_getElem? (i := 181) rfl) rfl
theorem wc_X4_voters : Cond.code yX4_voters cX4_voters 3 (some .int) ∈ gW := gW_2 (List.mem_of_getElem? (i := 186) rfl) rfl
theorem wm_X4_voters : Cond.instanceMethod yX4_voters ∈ gW := gW_2 (List.mem_of_getElem? (i := 184) rfl) rfl
theorem wl_X4_voters : Cond.selects RX4 yX4_voters yX4_voters ∈ gW := gW_2 (List.mem_of_getElem? (i := 185) rfl) rfl
theorem wc_X7_pass : Cond.code yX7_pass cX7_pass 2 (some .int) ∈ gW := gW_2 (List.mem_of_getElem? (i := 191) rfl) rfl
theorem wm_X7_pass : Cond.instanceMethod yX7_pass ∈ gW := gW_2 (List.mem_of_getElem? (i := 189) rfl) rfl
theorem wl_X7_pass : Cond.selects RX7 yX7_pass yX7_pass ∈ gW := gW_2 (List.mem_of_getElem? (i := 190) rfl) rfl
theorem wc_X5_endBallot : Cond.code yX5_endBallot cX5_endBallot 1 none ∈ gW := gW_2 (List.mem_of_getElem? (i := 195) rfl) rfl
theorem wm_X5_endBallot : Cond.instanceMethod yX5_endBallot ∈ gW := gW_2 (List.mem_of_getElem? (i := 193) rfl) rfl
theorem wl_X5_endBallot : Cond.selects RX5 yX5_endBallot yX5_endBallot ∈ gW := gW_2 (List.mem_of_getElem? (i := 194) rfl) rfl
theorem wc_X5_countVotes : Cond.code yX5_countVotes cX5_countVotes 3 none ∈ gW := gW_2 (List.mem_of_getElem? (i := 199) rfl) rfl
theorem wm_X5_countVotes : Cond.instanceMethod yX5_countVotes ∈ gW := gW_2 (List.mem_of_getElem? (i := 197) rfl) rfl
theorem wl_X5_countVotes : Cond.selects RX5 yX5_countVotes yX5_countVotes ∈ gW := gW_2 (List.mem_of_getElem? (i := 198) rfl) rfl
theorem wc_X5_sumFor : Cond.code yX5_sumFor cX5_sumFor 3 (some .int) ∈ gW := gW_2 (List.mem_of_getElem? (i := 204) rfl) rfl
theorem wm_X5_sumFor : Cond.instanceMethod yX5_sumFor ∈ gW := gW_2 (List.mem_of_getElem? (i := 203) rfl) rfl
theorem wl_X5_sumFor : Cond.selects RX5 yX5_sumFor yX5_sumFor ∈ gW := gW_p1 (q := (yX5_sumFor, 6)) (List.mem_of_getElem? (i := 0) rfl)
theorem wc_X1_hasTechnicalOf : Cond.code yX1_hasTechnicalOf cX1_hasTechnicalOf 3 (some .boolean) ∈ gW := gW_2 (List.mem_of_getElem? (i := 208) rfl) rfl
theorem wm_X1_hasTechnicalOf : Cond.instanceMethod yX1_hasTechnicalOf ∈ gW := gW_2 (List.mem_of_getElem? (i := 206) rfl) rfl
theorem wl_X1_hasTechnicalOf : Cond.selects RX1 yX1_hasTechnicalOf yX1_hasTechnicalOf ∈ gW := gW_2 (List.mem_of_getElem? (i := 207) rfl) rfl
theorem wc_X5_isCarriedBy : Cond.code yX5_isCarriedBy cX5_isCarriedBy 3 (some .boolean) ∈ gW := gW_2 (List.mem_of_getElem? (i := 212) rfl) rfl
theorem wm_X5_isCarriedBy : Cond.instanceMethod yX5_isCarriedBy ∈ gW := gW_2 (List.mem_of_getElem? (i := 211) rfl) rfl
theorem wl_X5_isCarriedBy : Cond.selects RX5 yX5_isCarriedBy yX5_isCarriedBy ∈ gW := gW_p1 (q := (yX5_isCarriedBy, 6)) (List.mem_of_getElem? (i := 1) rfl)
theorem wc_X4_noteMisses : Cond.code yX4_noteMisses cX4_noteMisses 2 none ∈ gW := gW_2 (List.mem_of_getElem? (i := 216) rfl) rfl
theorem wm_X4_noteMisses : Cond.instanceMethod yX4_noteMisses ∈ gW := gW_2 (List.mem_of_getElem? (i := 214) rfl) rfl
theorem wl_X4_noteMisses : Cond.selects RX4 yX4_noteMisses yX4_noteMisses ∈ gW := gW_2 (List.mem_of_getElem? (i := 215) rfl) rfl
theorem wc_X1_makeAllPending : Cond.code yX1_makeAllPending cX1_makeAllPending 2 none ∈ gW := gW_2 (List.mem_of_getElem? (i := 220) rfl) rfl
theorem wm_X1_makeAllPending : Cond.instanceMethod yX1_makeAllPending ∈ gW := gW_2 (List.mem_of_getElem? (i := 218) rfl) rfl
theorem wl_X1_makeAllPending : Cond.selects RX1 yX1_makeAllPending yX1_makeAllPending ∈ gW := gW_2 (List.mem_of_getElem? (i := 219) rfl) rfl
theorem wc_X7_tally : Cond.code yX7_tally cX7_tally 2 (some .int) ∈ gW := gW_2 (List.mem_of_getElem? (i := 224) rfl) rfl
theorem wm_X7_tally : Cond.instanceMethod yX7_tally ∈ gW := gW_2 (List.mem_of_getElem? (i := 222) rfl) rfl
theorem wl_X7_tally : Cond.selects RX7 yX7_tally yX7_tally ∈ gW := gW_2 (List.mem_of_getElem? (i := 223) rfl) rfl
theorem wc_X7_lacking : Cond.code yX7_lacking cX7_lacking 6 (some .int) ∈ gW := gW_2 (List.mem_of_getElem? (i := 229) rfl) rfl
theorem wm_X7_lacking : Cond.instanceMethod yX7_lacking ∈ gW := gW_2 (List.mem_of_getElem? (i := 227) rfl) rfl
theorem wl_X7_lacking : Cond.selects RX7 yX7_lacking yX7_lacking ∈ gW := gW_2 (List.mem_of_getElem? (i := 228) rfl) rfl
theorem wc_X7_dividedUp : Cond.code yX7_dividedUp cX7_dividedUp 2 (some .int) ∈ gW := gW_2 (List.mem_of_getElem? (i := 232) rfl) rfl
theorem ws_X7_dividedUp : Cond.static yX7_dividedUp ∈ gW := gW_2 (List.mem_of_getElem? (i := 231) rfl) rfl
theorem wc_J9_max_7cf53 : Cond.code yJ9_max_7cf53 cJ9_max_7cf53 2 (some .int) ∈ gW := gW_2 (List.mem_of_getElem? (i := 235) rfl) rfl
theorem ws_J9_max_7cf53 : Cond.static yJ9_max_7cf53 ∈ gW := gW_2 (List.mem_of_getElem? (i := 234) rfl) rfl
theorem wc_X7_comment : Cond.code yX7_comment cX7_comment 6 (some .int) ∈ gW := gW_2 (List.mem_of_getElem? (i := 239) rfl) rfl
theorem wm_X7_comment : Cond.instanceMethod yX7_comment ∈ gW := gW_2 (List.mem_of_getElem? (i := 237) rfl) rfl
theorem wl_X7_comment : Cond.selects RX7 yX7_comment yX7_comment ∈ gW := gW_2 (List.mem_of_getElem? (i := 238) rfl) rfl
theorem wc_X1_append : Cond.code yX1_append cX1_append 5 (some .int) ∈ gW := gW_3 (List.mem_of_getElem? (i := 3) rfl) rfl
theorem wm_X1_append : Cond.instanceMethod yX1_append ∈ gW := gW_3 (List.mem_of_getElem? (i := 1) rfl) rfl
theorem wl_X1_append : Cond.selects RX1 yX1_append yX1_append ∈ gW := gW_3 (List.mem_of_getElem? (i := 2) rfl) rfl
theorem wc_X7_told : Cond.code yX7_told cX7_told 3 (some .int) ∈ gW := gW_3 (List.mem_of_getElem? (i := 7) rfl) rfl
theorem wm_X7_told : Cond.instanceMethod yX7_told ∈ gW := gW_3 (List.mem_of_getElem? (i := 5) rfl) rfl
theorem wl_X7_told : Cond.selects RX7 yX7_told yX7_told ∈ gW := gW_3 (List.mem_of_getElem? (i := 6) rfl) rfl
theorem wc_X1_has : Cond.code yX1_has cX1_has 2 (some .boolean) ∈ gW := gW_3 (List.mem_of_getElem? (i := 11) rfl) rfl
theorem wm_X1_has : Cond.instanceMethod yX1_has ∈ gW := gW_3 (List.mem_of_getElem? (i := 9) rfl) rfl
theorem wl_X1_has : Cond.selects RX1 yX1_has yX1_has ∈ gW := gW_3 (List.mem_of_getElem? (i := 10) rfl) rfl
theorem wc_X1_isResolved : Cond.code yX1_isResolved cX1_isResolved 2 (some .boolean) ∈ gW := gW_3 (List.mem_of_getElem? (i := 15) rfl) rfl
theorem wm_X1_isResolved : Cond.instanceMethod yX1_isResolved ∈ gW := gW_3 (List.mem_of_getElem? (i := 13) rfl) rfl
theorem wl_X1_isResolved : Cond.selects RX1 yX1_isResolved yX1_isResolved ∈ gW := gW_3 (List.mem_of_getElem? (i := 14) rfl) rfl
theorem wc_X1_gaveValue : Cond.code yX1_gaveValue cX1_gaveValue 2 (some .boolean) ∈ gW := gW_3 (List.mem_of_getElem? (i := 19) rfl) rfl
theorem wm_X1_gaveValue : Cond.instanceMethod yX1_gaveValue ∈ gW := gW_3 (List.mem_of_getElem? (i := 17) rfl) rfl
theorem wl_X1_gaveValue : Cond.selects RX1 yX1_gaveValue yX1_gaveValue ∈ gW := gW_3 (List.mem_of_getElem? (i := 18) rfl) rfl
theorem wc_X7_next : Cond.code yX7_next cX7_next 2 (some .int) ∈ gW := gW_3 (List.mem_of_getElem? (i := 23) rfl) rfl
theorem wm_X7_next : Cond.instanceMethod yX7_next ∈ gW := gW_3 (List.mem_of_getElem? (i := 21) rfl) rfl
theorem wl_X7_next : Cond.selects RX7 yX7_next yX7_next ∈ gW := gW_3 (List.mem_of_getElem? (i := 22) rfl) rfl
theorem wc_X1_firstPending : Cond.code yX1_firstPending cX1_firstPending 4 (some .int) ∈ gW := gW_3 (List.mem_of_getElem? (i := 27) rfl) rfl
theorem wm_X1_firstPending : Cond.instanceMethod yX1_firstPending ∈ gW := gW_3 (List.mem_of_getElem? (i := 25) rfl) rfl
theorem wl_X1_firstPending : Cond.selects RX1 yX1_firstPending yX1_firstPending ∈ gW := gW_3 (List.mem_of_getElem? (i := 26) rfl) rfl
theorem wc_X1_isAhead : Cond.code yX1_isAhead cX1_isAhead 4 (some .boolean) ∈ gW := gW_3 (List.mem_of_getElem? (i := 31) rfl) rfl
theorem wm_X1_isAhead : Cond.instanceMethod yX1_isAhead ∈ gW := gW_3 (List.mem_of_getElem? (i := 30) rfl) rfl
theorem wl_X1_isAhead : Cond.selects RX1 yX1_isAhead yX1_isAhead ∈ gW := gW_p1 (q := (yX1_isAhead, 10)) (List.mem_of_getElem? (i := 2) rfl)
theorem wc_X7_resolve : Cond.code yX7_resolve cX7_resolve 5 (some .int) ∈ gW := gW_3 (List.mem_of_getElem? (i := 35) rfl) rfl
theorem wm_X7_resolve : Cond.instanceMethod yX7_resolve ∈ gW := gW_3 (List.mem_of_getElem? (i := 33) rfl) rfl
theorem wl_X7_resolve : Cond.selects RX7 yX7_resolve yX7_resolve ∈ gW := gW_3 (List.mem_of_getElem? (i := 34) rfl) rfl
theorem wc_X2_canGet : Cond.code yX2_canGet cX2_canGet 3 (some .boolean) ∈ gW := gW_3 (List.mem_of_getElem? (i := 39) rfl) rfl
theorem wm_X2_canGet : Cond.instanceMethod yX2_canGet ∈ gW := gW_3 (List.mem_of_getElem? (i := 37) rfl) rfl
theorem wl_X2_canGet : Cond.selects RX2 yX2_canGet yX2_canGet ∈ gW := gW_3 (List.mem_of_getElem? (i := 38) rfl) rfl
theorem wc_X5_settle : Cond.code yX5_settle cX5_settle 4 none ∈ gW := gW_3 (List.mem_of_getElem? (i := 43) rfl) rfl
theorem wm_X5_settle : Cond.instanceMethod yX5_settle ∈ gW := gW_3 (List.mem_of_getElem? (i := 41) rfl) rfl
theorem wl_X5_settle : Cond.selects RX5 yX5_settle yX5_settle ∈ gW := gW_3 (List.mem_of_getElem? (i := 42) rfl) rfl
theorem wc_X1_resolveAs : Cond.code yX1_resolveAs cX1_resolveAs 5 none ∈ gW := gW_3 (List.mem_of_getElem? (i := 47) rfl) rfl
theorem wm_X1_resolveAs : Cond.instanceMethod yX1_resolveAs ∈ gW := gW_3 (List.mem_of_getElem? (i := 45) rfl) rfl
theorem wl_X1_resolveAs : Cond.selects RX1 yX1_resolveAs yX1_resolveAs ∈ gW := gW_3 (List.mem_of_getElem? (i := 46) rfl) rfl
theorem wc_X2_isChanged : Cond.code yX2_isChanged cX2_isChanged 2 (some .boolean) ∈ gW := gW_3 (List.mem_of_getElem? (i := 53) rfl) rfl
theorem wm_X2_isChanged : Cond.instanceMethod yX2_isChanged ∈ gW := gW_3 (List.mem_of_getElem? (i := 51) rfl) rfl
theorem wl_X2_isChanged : Cond.selects RX2 yX2_isChanged yX2_isChanged ∈ gW := gW_3 (List.mem_of_getElem? (i := 52) rfl) rfl
theorem wc_X5_bringEdition : Cond.code yX5_bringEdition cX5_bringEdition 4 none ∈ gW := gW_3 (List.mem_of_getElem? (i := 57) rfl) rfl
theorem wm_X5_bringEdition : Cond.instanceMethod yX5_bringEdition ∈ gW := gW_3 (List.mem_of_getElem? (i := 56) rfl) rfl
theorem wl_X5_bringEdition : Cond.selects RX5 yX5_bringEdition yX5_bringEdition ∈ gW := gW_p1 (q := (yX5_bringEdition, 6)) (List.mem_of_getElem? (i := 3) rfl)
theorem wc_X1_firstBehind : Cond.code yX1_firstBehind cX1_firstBehind 5 (some .int) ∈ gW := gW_3 (List.mem_of_getElem? (i := 62) rfl) rfl
theorem wm_X1_firstBehind : Cond.instanceMethod yX1_firstBehind ∈ gW := gW_3 (List.mem_of_getElem? (i := 60) rfl) rfl
theorem wl_X1_firstBehind : Cond.selects RX1 yX1_firstBehind yX1_firstBehind ∈ gW := gW_3 (List.mem_of_getElem? (i := 61) rfl) rfl
theorem wc_X7_appeal : Cond.code yX7_appeal cX7_appeal 4 (some .int) ∈ gW := gW_3 (List.mem_of_getElem? (i := 67) rfl) rfl
theorem wm_X7_appeal : Cond.instanceMethod yX7_appeal ∈ gW := gW_3 (List.mem_of_getElem? (i := 65) rfl) rfl
theorem wl_X7_appeal : Cond.selects RX7 yX7_appeal yX7_appeal ∈ gW := gW_3 (List.mem_of_getElem? (i := 66) rfl) rfl
theorem wc_X4_isSet : Cond.code yX4_isSet cX4_isSet 2 (some .boolean) ∈ gW := gW_3 (List.mem_of_getElem? (i := 71) rfl) rfl
theorem wm_X4_isSet : Cond.instanceMethod yX4_isSet ∈ gW := gW_3 (List.mem_of_getElem? (i := 69) rfl) rfl
theorem wl_X4_isSet : Cond.selects RX4 yX4_isSet yX4_isSet ∈ gW := gW_3 (List.mem_of_getElem? (i := 70) rfl) rfl
theorem wc_X5_reopen : Cond.code yX5_reopen cX5_reopen 4 none ∈ gW := gW_3 (List.mem_of_getElem? (i := 76) rfl) rfl
theorem wm_X5_reopen : Cond.instanceMethod yX5_reopen ∈ gW := gW_3 (List.mem_of_getElem? (i := 74) rfl) rfl
theorem wl_X5_reopen : Cond.selects RX5 yX5_reopen yX5_reopen ∈ gW := gW_3 (List.mem_of_getElem? (i := 75) rfl) rfl
theorem wc_X7_changes : Cond.code yX7_changes cX7_changes 2 (some .int) ∈ gW := gW_3 (List.mem_of_getElem? (i := 80) rfl) rfl
theorem wm_X7_changes : Cond.instanceMethod yX7_changes ∈ gW := gW_3 (List.mem_of_getElem? (i := 78) rfl) rfl
theorem wl_X7_changes : Cond.selects RX7 yX7_changes yX7_changes ∈ gW := gW_3 (List.mem_of_getElem? (i := 79) rfl) rfl
theorem wc_X2_changesOf : Cond.code yX2_changesOf cX2_changesOf 4 (some .int) ∈ gW := gW_3 (List.mem_of_getElem? (i := 84) rfl) rfl
theorem wm_X2_changesOf : Cond.instanceMethod yX2_changesOf ∈ gW := gW_3 (List.mem_of_getElem? (i := 82) rfl) rfl
theorem wl_X2_changesOf : Cond.selects RX2 yX2_changesOf yX2_changesOf ∈ gW := gW_3 (List.mem_of_getElem? (i := 83) rfl) rfl
theorem wc_X2_differs : Cond.code yX2_differs cX2_differs 3 (some .boolean) ∈ gW := gW_3 (List.mem_of_getElem? (i := 88) rfl) rfl
theorem wm_X2_differs : Cond.instanceMethod yX2_differs ∈ gW := gW_3 (List.mem_of_getElem? (i := 86) rfl) rfl
theorem wl_X2_differs : Cond.selects RX2 yX2_differs yX2_differs ∈ gW := gW_3 (List.mem_of_getElem? (i := 87) rfl) rfl
theorem wc_X7_change : Cond.code yX7_change cX7_change 5 (some .int) ∈ gW := gW_3 (List.mem_of_getElem? (i := 92) rfl) rfl
theorem wm_X7_change : Cond.instanceMethod yX7_change ∈ gW := gW_3 (List.mem_of_getElem? (i := 90) rfl) rfl
theorem wl_X7_change : Cond.selects RX7 yX7_change yX7_change ∈ gW := gW_3 (List.mem_of_getElem? (i := 91) rfl) rfl
theorem wc_X2_placeOfChange : Cond.code yX2_placeOfChange cX2_placeOfChange 5 (some .int) ∈ gW := gW_3 (List.mem_of_getElem? (i := 96) rfl) rfl
theorem wm_X2_placeOfChange : Cond.instanceMethod yX2_placeOfChange ∈ gW := gW_3 (List.mem_of_getElem? (i := 94) rfl) rfl
theorem wl_X2_placeOfChange : Cond.selects RX2 yX2_placeOfChange yX2_placeOfChange ∈ gW := gW_3 (List.mem_of_getElem? (i := 95) rfl) rfl
theorem wc_X7_undo : Cond.code yX7_undo cX7_undo 1 (some .int) ∈ gW := gW_3 (List.mem_of_getElem? (i := 100) rfl) rfl
theorem wm_X7_undo : Cond.instanceMethod yX7_undo ∈ gW := gW_3 (List.mem_of_getElem? (i := 98) rfl) rfl
theorem wl_X7_undo : Cond.selects RX7 yX7_undo yX7_undo ∈ gW := gW_3 (List.mem_of_getElem? (i := 99) rfl) rfl
theorem wc_X3_restore : Cond.code yX3_restore cX3_restore 2 none ∈ gW := gW_3 (List.mem_of_getElem? (i := 104) rfl) rfl
theorem wm_X3_restore : Cond.instanceMethod yX3_restore ∈ gW := gW_3 (List.mem_of_getElem? (i := 102) rfl) rfl
theorem wl_X3_restore : Cond.selects RX3 yX3_restore yX3_restore ∈ gW := gW_3 (List.mem_of_getElem? (i := 103) rfl) rfl
theorem wc_X7_type : Cond.code yX7_type cX7_type 2 (some .int) ∈ gW := gW_3 (List.mem_of_getElem? (i := 108) rfl) rfl
theorem wm_X7_type : Cond.instanceMethod yX7_type ∈ gW := gW_3 (List.mem_of_getElem? (i := 106) rfl) rfl
theorem wl_X7_type : Cond.selects RX7 yX7_type yX7_type ∈ gW := gW_3 (List.mem_of_getElem? (i := 107) rfl) rfl
theorem wc_X6_append : Cond.code yX6_append cX6_append 2 none ∈ gW := gW_3 (List.mem_of_getElem? (i := 112) rfl) rfl
theorem wm_X6_append : Cond.instanceMethod yX6_append ∈ gW := gW_3 (List.mem_of_getElem? (i := 110) rfl) rfl
theorem wl_X6_append : Cond.selects RX6 yX6_append yX6_append ∈ gW := gW_3 (List.mem_of_getElem? (i := 111) rfl) rfl
theorem wc_X7_clearText : Cond.code yX7_clearText cX7_clearText 2 (some .int) ∈ gW := gW_3 (List.mem_of_getElem? (i := 116) rfl) rfl
theorem wm_X7_clearText : Cond.instanceMethod yX7_clearText ∈ gW := gW_3 (List.mem_of_getElem? (i := 114) rfl) rfl
theorem wl_X7_clearText : Cond.selects RX7 yX7_clearText yX7_clearText ∈ gW := gW_3 (List.mem_of_getElem? (i := 115) rfl) rfl
theorem wc_X7_fault : Cond.code yX7_fault cX7_fault 3 (some .int) ∈ gW := gW_3 (List.mem_of_getElem? (i := 120) rfl) rfl
theorem wm_X7_fault : Cond.instanceMethod yX7_fault ∈ gW := gW_3 (List.mem_of_getElem? (i := 118) rfl) rfl
theorem wl_X7_fault : Cond.selects RX7 yX7_fault yX7_fault ∈ gW := gW_3 (List.mem_of_getElem? (i := 119) rfl) rfl
theorem wc_X7_firstFault : Cond.code yX7_firstFault cX7_firstFault 4 (some .int) ∈ gW := gW_3 (List.mem_of_getElem? (i := 124) rfl) rfl
theorem wm_X7_firstFault : Cond.instanceMethod yX7_firstFault ∈ gW := gW_3 (List.mem_of_getElem? (i := 123) rfl) rfl
theorem wl_X7_firstFault : Cond.selects RX7 yX7_firstFault yX7_firstFault ∈ gW := gW_p1 (q := (yX7_firstFault, 3)) (List.mem_of_getElem? (i := 4) rfl)
theorem wc_X6_rewind : Cond.code yX6_rewind cX6_rewind 1 none ∈ gW := gW_3 (List.mem_of_getElem? (i := 128) rfl) rfl
theorem wm_X6_rewind : Cond.instanceMethod yX6_rewind ∈ gW := gW_3 (List.mem_of_getElem? (i := 126) rfl) rfl
theorem wl_X6_rewind : Cond.selects RX6 yX6_rewind yX6_rewind ∈ gW := gW_3 (List.mem_of_getElem? (i := 127) rfl) rfl
theorem wc_X6_isAtEnd : Cond.code yX6_isAtEnd cX6_isAtEnd 1 (some .boolean) ∈ gW := gW_3 (List.mem_of_getElem? (i := 132) rfl) rfl
theorem wm_X6_isAtEnd : Cond.instanceMethod yX6_isAtEnd ∈ gW := gW_3 (List.mem_of_getElem? (i := 130) rfl) rfl
theorem wl_X6_isAtEnd : Cond.selects RX6 yX6_isAtEnd yX6_isAtEnd ∈ gW := gW_3 (List.mem_of_getElem? (i := 131) rfl) rfl
theorem wc_X6_readComment : Cond.code yX6_readComment cX6_readComment 4 (some .boolean) ∈ gW := gW_3 (List.mem_of_getElem? (i := 136) rfl) rfl
theorem wm_X6_readComment : Cond.instanceMethod yX6_readComment ∈ gW := gW_3 (List.mem_of_getElem? (i := 134) rfl) rfl
theorem wl_X6_readComment : Cond.selects RX6 yX6_readComment yX6_readComment ∈ gW := gW_3 (List.mem_of_getElem? (i := 135) rfl) rfl
theorem wc_X6_digitsAt : Cond.code yX6_digitsAt cX6_digitsAt 5 (some .int) ∈ gW := gW_3 (List.mem_of_getElem? (i := 140) rfl) rfl
theorem wm_X6_digitsAt : Cond.instanceMethod yX6_digitsAt ∈ gW := gW_3 (List.mem_of_getElem? (i := 139) rfl) rfl
theorem wl_X6_digitsAt : Cond.selects RX6 yX6_digitsAt yX6_digitsAt ∈ gW := gW_p1 (q := (yX6_digitsAt, 7)) (List.mem_of_getElem? (i := 5) rfl)
theorem wc_X6_signAt : Cond.code yX6_signAt cX6_signAt 2 (some .char) ∈ gW := gW_3 (List.mem_of_getElem? (i := 144) rfl) rfl
theorem wm_X6_signAt : Cond.instanceMethod yX6_signAt ∈ gW := gW_3 (List.mem_of_getElem? (i := 143) rfl) rfl
theorem wl_X6_signAt : Cond.selects RX6 yX6_signAt yX6_signAt ∈ gW := gW_p1 (q := (yX6_signAt, 7)) (List.mem_of_getElem? (i := 6) rfl)
theorem wc_X6_numberAt : Cond.code yX6_numberAt cX6_numberAt 5 (some .int) ∈ gW := gW_3 (List.mem_of_getElem? (i := 148) rfl) rfl
theorem wm_X6_numberAt : Cond.instanceMethod yX6_numberAt ∈ gW := gW_3 (List.mem_of_getElem? (i := 147) rfl) rfl
theorem wl_X6_numberAt : Cond.selects RX6 yX6_numberAt yX6_numberAt ∈ gW := gW_p1 (q := (yX6_numberAt, 7)) (List.mem_of_getElem? (i := 7) rfl)
theorem wc_X7_enter : Cond.code yX7_enter cX7_enter 5 (some .int) ∈ gW := gW_3 (List.mem_of_getElem? (i := 152) rfl) rfl
theorem wm_X7_enter : Cond.instanceMethod yX7_enter ∈ gW := gW_3 (List.mem_of_getElem? (i := 150) rfl) rfl
theorem wl_X7_enter : Cond.selects RX7 yX7_enter yX7_enter ∈ gW := gW_3 (List.mem_of_getElem? (i := 151) rfl) rfl
theorem wc_X8_init : Cond.code yX8_init cX8_init 1 none ∈ gW := gW_3 (List.mem_of_getElem? (i := 157) rfl) rfl
theorem wm_X8_init : Cond.instanceMethod yX8_init ∈ gW := gW_3 (List.mem_of_getElem? (i := 156) rfl) rfl
theorem wc_X8_undo : Cond.code yX8_undo cX8_undo 2 (some .int) ∈ gW := gW_3 (List.mem_of_getElem? (i := 199) rfl) rfl
theorem wm_X8_undo : Cond.instanceMethod yX8_undo ∈ gW := gW_3 (List.mem_of_getElem? (i := 197) rfl) rfl
theorem wl_X8_undo : Cond.selects RX8 yX8_undo yX8_undo ∈ gW := gW_3 (List.mem_of_getElem? (i := 198) rfl) rfl
theorem wc_X8_addMember : Cond.code yX8_addMember cX8_addMember 4 (some .int) ∈ gW := gW_3 (List.mem_of_getElem? (i := 203) rfl) rfl
theorem wm_X8_addMember : Cond.instanceMethod yX8_addMember ∈ gW := gW_3 (List.mem_of_getElem? (i := 201) rfl) rfl
theorem wl_X8_addMember : Cond.selects RX8 yX8_addMember yX8_addMember ∈ gW := gW_3 (List.mem_of_getElem? (i := 202) rfl) rfl
theorem wc_X8_in : Cond.code yX8_in cX8_in 3 (some .boolean) ∈ gW := gW_3 (List.mem_of_getElem? (i := 206) rfl) rfl
theorem ws_X8_in : Cond.static yX8_in ∈ gW := gW_3 (List.mem_of_getElem? (i := 205) rfl) rfl
theorem wc_X8_records : Cond.code yX8_records cX8_records 2 none ∈ gW := gW_3 (List.mem_of_getElem? (i := 210) rfl) rfl
theorem wm_X8_records : Cond.instanceMethod yX8_records ∈ gW := gW_3 (List.mem_of_getElem? (i := 209) rfl) rfl
theorem wl_X8_records : Cond.selects RX8 yX8_records yX8_records ∈ gW := gW_p1 (q := (yX8_records, 12)) (List.mem_of_getElem? (i := 8) rfl)
theorem wc_X8_memberAt : Cond.code yX8_memberAt cX8_memberAt 1 (some .int) ∈ gW := gW_3 (List.mem_of_getElem? (i := 213) rfl) rfl
theorem ws_X8_memberAt : Cond.static yX8_memberAt ∈ gW := gW_3 (List.mem_of_getElem? (i := 212) rfl) rfl
theorem wc_X8_addClause : Cond.code yX8_addClause cX8_addClause 5 (some .int) ∈ gW := gW_3 (List.mem_of_getElem? (i := 217) rfl) rfl
theorem wm_X8_addClause : Cond.instanceMethod yX8_addClause ∈ gW := gW_3 (List.mem_of_getElem? (i := 215) rfl) rfl
theorem wl_X8_addClause : Cond.selects RX8 yX8_addClause yX8_addClause ∈ gW := gW_3 (List.mem_of_getElem? (i := 216) rfl) rfl
theorem wc_X8_isValue : Cond.code yX8_isValue cX8_isValue 1 (some .boolean) ∈ gW := gW_3 (List.mem_of_getElem? (i := 220) rfl) rfl
theorem ws_X8_isValue : Cond.static yX8_isValue ∈ gW := gW_3 (List.mem_of_getElem? (i := 219) rfl) rfl
theorem wc_X8_indexOf : Cond.code yX8_indexOf cX8_indexOf 3 (some .int) ∈ gW := gW_3 (List.mem_of_getElem? (i := 224) rfl) rfl
theorem wm_X8_indexOf : Cond.instanceMethod yX8_indexOf ∈ gW := gW_3 (List.mem_of_getElem? (i := 223) rfl) rfl
theorem wl_X8_indexOf : Cond.selects RX8 yX8_indexOf yX8_indexOf ∈ gW := gW_p1 (q := (yX8_indexOf, 12)) (List.mem_of_getElem? (i := 9) rfl)
theorem wc_X8_clauseAt : Cond.code yX8_clauseAt cX8_clauseAt 1 (some .int) ∈ gW := gW_3 (List.mem_of_getElem? (i := 227) rfl) rfl
theorem ws_X8_clauseAt : Cond.static yX8_clauseAt ∈ gW := gW_3 (List.mem_of_getElem? (i := 226) rfl) rfl
theorem wc_X8_set : Cond.code yX8_set cX8_set 4 (some .int) ∈ gW := gW_3 (List.mem_of_getElem? (i := 231) rfl) rfl
theorem wm_X8_set : Cond.instanceMethod yX8_set ∈ gW := gW_3 (List.mem_of_getElem? (i := 229) rfl) rfl
theorem wl_X8_set : Cond.selects RX8 yX8_set yX8_set ∈ gW := gW_3 (List.mem_of_getElem? (i := 230) rfl) rfl
theorem wc_X8_isSetting : Cond.code yX8_isSetting cX8_isSetting 2 (some .boolean) ∈ gW := gW_3 (List.mem_of_getElem? (i := 234) rfl) rfl
theorem ws_X8_isSetting : Cond.static yX8_isSetting ∈ gW := gW_3 (List.mem_of_getElem? (i := 233) rfl) rfl
theorem wc_X8_member : Cond.code yX8_member cX8_member 4 (some .int) ∈ gW := gW_3 (List.mem_of_getElem? (i := 238) rfl) rfl
theorem wm_X8_member : Cond.instanceMethod yX8_member ∈ gW := gW_3 (List.mem_of_getElem? (i := 236) rfl) rfl
theorem wl_X8_member : Cond.selects RX8 yX8_member yX8_member ∈ gW := gW_3 (List.mem_of_getElem? (i := 237) rfl) rfl
theorem wc_X8_isMember : Cond.code yX8_isMember cX8_isMember 2 (some .boolean) ∈ gW := gW_4 (List.mem_of_getElem? (i := 2) rfl) rfl
theorem wm_X8_isMember : Cond.instanceMethod yX8_isMember ∈ gW := gW_4 (List.mem_of_getElem? (i := 1) rfl) rfl
theorem wl_X8_isMember : Cond.selects RX8 yX8_isMember yX8_isMember ∈ gW := gW_p1 (q := (yX8_isMember, 12)) (List.mem_of_getElem? (i := 10) rfl)
theorem wc_X8_isLapsed : Cond.code yX8_isLapsed cX8_isLapsed 2 (some .boolean) ∈ gW := gW_4 (List.mem_of_getElem? (i := 6) rfl) rfl
theorem wm_X8_isLapsed : Cond.instanceMethod yX8_isLapsed ∈ gW := gW_4 (List.mem_of_getElem? (i := 5) rfl) rfl
theorem wl_X8_isLapsed : Cond.selects RX8 yX8_isLapsed yX8_isLapsed ∈ gW := gW_p1 (q := (yX8_isLapsed, 12)) (List.mem_of_getElem? (i := 11) rfl)
theorem wc_X8_commentsOf : Cond.code yX8_commentsOf cX8_commentsOf 4 (some .int) ∈ gW := gW_4 (List.mem_of_getElem? (i := 10) rfl) rfl
theorem wm_X8_commentsOf : Cond.instanceMethod yX8_commentsOf ∈ gW := gW_4 (List.mem_of_getElem? (i := 9) rfl) rfl
theorem wl_X8_commentsOf : Cond.selects RX8 yX8_commentsOf yX8_commentsOf ∈ gW := gW_p1 (q := (yX8_commentsOf, 12)) (List.mem_of_getElem? (i := 12) rfl)
theorem wc_X8_commentAt : Cond.code yX8_commentAt cX8_commentAt 1 (some .int) ∈ gW := gW_4 (List.mem_of_getElem? (i := 13) rfl) rfl
theorem ws_X8_commentAt : Cond.static yX8_commentAt ∈ gW := gW_4 (List.mem_of_getElem? (i := 12) rfl) rfl
theorem wc_X8_value : Cond.code yX8_value cX8_value 3 (some .int) ∈ gW := gW_4 (List.mem_of_getElem? (i := 17) rfl) rfl
theorem wm_X8_value : Cond.instanceMethod yX8_value ∈ gW := gW_4 (List.mem_of_getElem? (i := 15) rfl) rfl
theorem wl_X8_value : Cond.selects RX8 yX8_value yX8_value ∈ gW := gW_4 (List.mem_of_getElem? (i := 16) rfl) rfl
theorem wc_X8_valueIn : Cond.code yX8_valueIn cX8_valueIn 4 (some .int) ∈ gW := gW_4 (List.mem_of_getElem? (i := 21) rfl) rfl
theorem wm_X8_valueIn : Cond.instanceMethod yX8_valueIn ∈ gW := gW_4 (List.mem_of_getElem? (i := 19) rfl) rfl
theorem wl_X8_valueIn : Cond.selects RX8 yX8_valueIn yX8_valueIn ∈ gW := gW_4 (List.mem_of_getElem? (i := 20) rfl) rfl
theorem wc_X8_isEdition : Cond.code yX8_isEdition cX8_isEdition 2 (some .boolean) ∈ gW := gW_4 (List.mem_of_getElem? (i := 25) rfl) rfl
theorem wm_X8_isEdition : Cond.instanceMethod yX8_isEdition ∈ gW := gW_4 (List.mem_of_getElem? (i := 24) rfl) rfl
theorem wl_X8_isEdition : Cond.selects RX8 yX8_isEdition yX8_isEdition ∈ gW := gW_p1 (q := (yX8_isEdition, 12)) (List.mem_of_getElem? (i := 13) rfl)
theorem wc_X8_clause : Cond.code yX8_clause cX8_clause 2 (some .int) ∈ gW := gW_4 (List.mem_of_getElem? (i := 29) rfl) rfl
theorem wm_X8_clause : Cond.instanceMethod yX8_clause ∈ gW := gW_4 (List.mem_of_getElem? (i := 27) rfl) rfl
theorem wl_X8_clause : Cond.selects RX8 yX8_clause yX8_clause ∈ gW := gW_4 (List.mem_of_getElem? (i := 28) rfl) rfl
theorem wc_X8_count : Cond.code yX8_count cX8_count 2 (some .int) ∈ gW := gW_4 (List.mem_of_getElem? (i := 33) rfl) rfl
theorem wm_X8_count : Cond.instanceMethod yX8_count ∈ gW := gW_4 (List.mem_of_getElem? (i := 31) rfl) rfl
theorem wl_X8_count : Cond.selects RX8 yX8_count yX8_count ∈ gW := gW_4 (List.mem_of_getElem? (i := 32) rfl) rfl
theorem wc_X8_pending : Cond.code yX8_pending cX8_pending 3 (some .int) ∈ gW := gW_4 (List.mem_of_getElem? (i := 37) rfl) rfl
theorem wm_X8_pending : Cond.instanceMethod yX8_pending ∈ gW := gW_4 (List.mem_of_getElem? (i := 36) rfl) rfl
theorem wl_X8_pending : Cond.selects RX8 yX8_pending yX8_pending ∈ gW := gW_p1 (q := (yX8_pending, 12)) (List.mem_of_getElem? (i := 14) rfl)
theorem wc_X8_activeWeight : Cond.code yX8_activeWeight cX8_activeWeight 3 (some .int) ∈ gW := gW_4 (List.mem_of_getElem? (i := 41) rfl) rfl
theorem wm_X8_activeWeight : Cond.instanceMethod yX8_activeWeight ∈ gW := gW_4 (List.mem_of_getElem? (i := 40) rfl) rfl
theorem wl_X8_activeWeight : Cond.selects RX8 yX8_activeWeight yX8_activeWeight ∈ gW := gW_p1 (q := (yX8_activeWeight, 12)) (List.mem_of_getElem? (i := 15) rfl)
theorem wc_X8_open : Cond.code yX8_open cX8_open 2 (some .int) ∈ gW := gW_4 (List.mem_of_getElem? (i := 45) rfl) rfl
theorem wm_X8_open : Cond.instanceMethod yX8_open ∈ gW := gW_4 (List.mem_of_getElem? (i := 43) rfl) rfl
theorem wl_X8_open : Cond.selects RX8 yX8_open yX8_open ∈ gW := gW_4 (List.mem_of_getElem? (i := 44) rfl) rfl
theorem wc_X8_vote : Cond.code yX8_vote cX8_vote 5 (some .int) ∈ gW := gW_4 (List.mem_of_getElem? (i := 49) rfl) rfl
theorem wm_X8_vote : Cond.instanceMethod yX8_vote ∈ gW := gW_4 (List.mem_of_getElem? (i := 47) rfl) rfl
theorem wl_X8_vote : Cond.selects RX8 yX8_vote yX8_vote ∈ gW := gW_4 (List.mem_of_getElem? (i := 48) rfl) rfl
theorem wc_X8_pass : Cond.code yX8_pass cX8_pass 3 (some .int) ∈ gW := gW_4 (List.mem_of_getElem? (i := 53) rfl) rfl
theorem wm_X8_pass : Cond.instanceMethod yX8_pass ∈ gW := gW_4 (List.mem_of_getElem? (i := 51) rfl) rfl
theorem wl_X8_pass : Cond.selects RX8 yX8_pass yX8_pass ∈ gW := gW_4 (List.mem_of_getElem? (i := 52) rfl) rfl
theorem wc_X8_ends : Cond.code yX8_ends cX8_ends 3 (some .boolean) ∈ gW := gW_4 (List.mem_of_getElem? (i := 57) rfl) rfl
theorem wm_X8_ends : Cond.instanceMethod yX8_ends ∈ gW := gW_4 (List.mem_of_getElem? (i := 56) rfl) rfl
theorem wl_X8_ends : Cond.selects RX8 yX8_ends yX8_ends ∈ gW := gW_p2 (q := (yX8_ends, 12)) (List.mem_of_getElem? (i := 0) rfl)
theorem wc_X8_tallies : Cond.code yX8_tallies cX8_tallies 4 none ∈ gW := gW_4 (List.mem_of_getElem? (i := 61) rfl) rfl
theorem wm_X8_tallies : Cond.instanceMethod yX8_tallies ∈ gW := gW_4 (List.mem_of_getElem? (i := 60) rfl) rfl
theorem wl_X8_tallies : Cond.selects RX8 yX8_tallies yX8_tallies ∈ gW := gW_p2 (q := (yX8_tallies, 12)) (List.mem_of_getElem? (i := 1) rfl)
theorem wc_X8_isTechnical : Cond.code yX8_isTechnical cX8_isTechnical 4 (some .boolean) ∈ gW := gW_4 (List.mem_of_getElem? (i := 65) rfl) rfl
theorem wm_X8_isTechnical : Cond.instanceMethod yX8_isTechnical ∈ gW := gW_4 (List.mem_of_getElem? (i := 64) rfl) rfl
theorem wl_X8_isTechnical : Cond.selects RX8 yX8_isTechnical yX8_isTechnical ∈ gW := gW_p2 (q := (yX8_isTechnical, 12)) (List.mem_of_getElem? (i := 2) rfl)
theorem wc_X8_carries : Cond.code yX8_carries cX8_carries 5 (some .boolean) ∈ gW := gW_4 (List.mem_of_getElem? (i := 69) rfl) rfl
theorem wm_X8_carries : Cond.instanceMethod yX8_carries ∈ gW := gW_4 (List.mem_of_getElem? (i := 68) rfl) rfl
theorem wl_X8_carries : Cond.selects RX8 yX8_carries yX8_carries ∈ gW := gW_p2 (q := (yX8_carries, 12)) (List.mem_of_getElem? (i := 3) rfl)
theorem wc_X8_tally : Cond.code yX8_tally cX8_tally 2 (some .int) ∈ gW := gW_4 (List.mem_of_getElem? (i := 73) rfl) rfl
theorem wm_X8_tally : Cond.instanceMethod yX8_tally ∈ gW := gW_4 (List.mem_of_getElem? (i := 71) rfl) rfl
theorem wl_X8_tally : Cond.selects RX8 yX8_tally yX8_tally ∈ gW := gW_4 (List.mem_of_getElem? (i := 72) rfl) rfl
theorem wc_X8_lacking : Cond.code yX8_lacking cX8_lacking 4 (some .int) ∈ gW := gW_4 (List.mem_of_getElem? (i := 77) rfl) rfl
theorem wm_X8_lacking : Cond.instanceMethod yX8_lacking ∈ gW := gW_4 (List.mem_of_getElem? (i := 75) rfl) rfl
theorem wl_X8_lacking : Cond.selects RX8 yX8_lacking yX8_lacking ∈ gW := gW_4 (List.mem_of_getElem? (i := 76) rfl) rfl
theorem wc_X8_comment : Cond.code yX8_comment cX8_comment 6 (some .int) ∈ gW := gW_4 (List.mem_of_getElem? (i := 81) rfl) rfl
theorem wm_X8_comment : Cond.instanceMethod yX8_comment ∈ gW := gW_4 (List.mem_of_getElem? (i := 79) rfl) rfl
theorem wl_X8_comment : Cond.selects RX8 yX8_comment yX8_comment ∈ gW := gW_4 (List.mem_of_getElem? (i := 80) rfl) rfl
theorem wc_X8_comes : Cond.code yX8_comes cX8_comes 7 (some .int) ∈ gW := gW_4 (List.mem_of_getElem? (i := 85) rfl) rfl
theorem wm_X8_comes : Cond.instanceMethod yX8_comes ∈ gW := gW_4 (List.mem_of_getElem? (i := 84) rfl) rfl
theorem wl_X8_comes : Cond.selects RX8 yX8_comes yX8_comes ∈ gW := gW_p2 (q := (yX8_comes, 12)) (List.mem_of_getElem? (i := 4) rfl)
theorem wc_X8_told : Cond.code yX8_told cX8_told 5 (some .int) ∈ gW := gW_4 (List.mem_of_getElem? (i := 89) rfl) rfl
theorem wm_X8_told : Cond.instanceMethod yX8_told ∈ gW := gW_4 (List.mem_of_getElem? (i := 87) rfl) rfl
theorem wl_X8_told : Cond.selects RX8 yX8_told yX8_told ∈ gW := gW_4 (List.mem_of_getElem? (i := 88) rfl) rfl
theorem wc_X8_isComment : Cond.code yX8_isComment cX8_isComment 2 (some .boolean) ∈ gW := gW_4 (List.mem_of_getElem? (i := 93) rfl) rfl
theorem wm_X8_isComment : Cond.instanceMethod yX8_isComment ∈ gW := gW_4 (List.mem_of_getElem? (i := 92) rfl) rfl
theorem wl_X8_isComment : Cond.selects RX8 yX8_isComment yX8_isComment ∈ gW := gW_p2 (q := (yX8_isComment, 12)) (List.mem_of_getElem? (i := 5) rfl)
theorem wc_X8_next : Cond.code yX8_next cX8_next 4 (some .int) ∈ gW := gW_4 (List.mem_of_getElem? (i := 97) rfl) rfl
theorem wm_X8_next : Cond.instanceMethod yX8_next ∈ gW := gW_4 (List.mem_of_getElem? (i := 95) rfl) rfl
theorem wl_X8_next : Cond.selects RX8 yX8_next yX8_next ∈ gW := gW_4 (List.mem_of_getElem? (i := 96) rfl) rfl
theorem wc_X8_isAhead : Cond.code yX8_isAhead cX8_isAhead 7 (some .boolean) ∈ gW := gW_4 (List.mem_of_getElem? (i := 101) rfl) rfl
theorem wm_X8_isAhead : Cond.instanceMethod yX8_isAhead ∈ gW := gW_4 (List.mem_of_getElem? (i := 100) rfl) rfl
theorem wl_X8_isAhead : Cond.selects RX8 yX8_isAhead yX8_isAhead ∈ gW := gW_p2 (q := (yX8_isAhead, 12)) (List.mem_of_getElem? (i := 6) rfl)
theorem wc_X8_resolve : Cond.code yX8_resolve cX8_resolve 8 (some .int) ∈ gW := gW_4 (List.mem_of_getElem? (i := 105) rfl) rfl
theorem wm_X8_resolve : Cond.instanceMethod yX8_resolve ∈ gW := gW_4 (List.mem_of_getElem? (i := 103) rfl) rfl
theorem wl_X8_resolve : Cond.selects RX8 yX8_resolve yX8_resolve ∈ gW := gW_4 (List.mem_of_getElem? (i := 104) rfl) rfl
theorem wc_X8_canGet : Cond.code yX8_canGet cX8_canGet 4 (some .boolean) ∈ gW := gW_4 (List.mem_of_getElem? (i := 110) rfl) rfl
theorem wm_X8_canGet : Cond.instanceMethod yX8_canGet ∈ gW := gW_4 (List.mem_of_getElem? (i := 109) rfl) rfl
theorem wl_X8_canGet : Cond.selects RX8 yX8_canGet yX8_canGet ∈ gW := gW_p2 (q := (yX8_canGet, 12)) (List.mem_of_getElem? (i := 7) rfl)
theorem wc_X8_comesEdition : Cond.code yX8_comesEdition cX8_comesEdition 4 none ∈ gW := gW_4 (List.mem_of_getElem? (i := 114) rfl) rfl
theorem wm_X8_comesEdition : Cond.instanceMethod yX8_comesEdition ∈ gW := gW_4 (List.mem_of_getElem? (i := 113) rfl) rfl
theorem wl_X8_comesEdition : Cond.selects RX8 yX8_comesEdition yX8_comesEdition ∈ gW := gW_p2 (q := (yX8_comesEdition, 12)) (List.mem_of_getElem? (i := 8) rfl)
theorem wc_X8_giver : Cond.code yX8_giver cX8_giver 7 (some .int) ∈ gW := gW_4 (List.mem_of_getElem? (i := 118) rfl) rfl
theorem wm_X8_giver : Cond.instanceMethod yX8_giver ∈ gW := gW_4 (List.mem_of_getElem? (i := 117) rfl) rfl
theorem wl_X8_giver : Cond.selects RX8 yX8_giver yX8_giver ∈ gW := gW_p2 (q := (yX8_giver, 12)) (List.mem_of_getElem? (i := 9) rfl)
theorem wc_X8_appeal : Cond.code yX8_appeal cX8_appeal 8 (some .int) ∈ gW := gW_4 (List.mem_of_getElem? (i := 122) rfl) rfl
theorem wm_X8_appeal : Cond.instanceMethod yX8_appeal ∈ gW := gW_4 (List.mem_of_getElem? (i := 120) rfl) rfl
theorem wl_X8_appeal : Cond.selects RX8 yX8_appeal yX8_appeal ∈ gW := gW_4 (List.mem_of_getElem? (i := 121) rfl) rfl
theorem wc_X8_reopens : Cond.code yX8_reopens cX8_reopens 6 none ∈ gW := gW_4 (List.mem_of_getElem? (i := 126) rfl) rfl
theorem wm_X8_reopens : Cond.instanceMethod yX8_reopens ∈ gW := gW_4 (List.mem_of_getElem? (i := 125) rfl) rfl
theorem wl_X8_reopens : Cond.selects RX8 yX8_reopens yX8_reopens ∈ gW := gW_p2 (q := (yX8_reopens, 12)) (List.mem_of_getElem? (i := 10) rfl)
theorem wc_X8_changes : Cond.code yX8_changes cX8_changes 4 (some .int) ∈ gW := gW_4 (List.mem_of_getElem? (i := 130) rfl) rfl
theorem wm_X8_changes : Cond.instanceMethod yX8_changes ∈ gW := gW_4 (List.mem_of_getElem? (i := 128) rfl) rfl
theorem wl_X8_changes : Cond.selects RX8 yX8_changes yX8_changes ∈ gW := gW_4 (List.mem_of_getElem? (i := 129) rfl) rfl
theorem wc_X8_isChanged : Cond.code yX8_isChanged cX8_isChanged 4 (some .boolean) ∈ gW := gW_4 (List.mem_of_getElem? (i := 134) rfl) rfl
theorem wm_X8_isChanged : Cond.instanceMethod yX8_isChanged ∈ gW := gW_4 (List.mem_of_getElem? (i := 133) rfl) rfl
theorem wl_X8_isChanged : Cond.selects RX8 yX8_isChanged yX8_isChanged ∈ gW := gW_p2 (q := (yX8_isChanged, 12)) (List.mem_of_getElem? (i := 11) rfl)
theorem wc_X8_change : Cond.code yX8_change cX8_change 7 (some .int) ∈ gW := gW_4 (List.mem_of_getElem? (i := 138) rfl) rfl
theorem wm_X8_change : Cond.instanceMethod yX8_change ∈ gW := gW_4 (List.mem_of_getElem? (i := 136) rfl) rfl
theorem wl_X8_change : Cond.selects RX8 yX8_change yX8_change ∈ gW := gW_4 (List.mem_of_getElem? (i := 137) rfl) rfl
theorem wc_X8_type : Cond.code yX8_type cX8_type 2 (some .int) ∈ gW := gW_4 (List.mem_of_getElem? (i := 142) rfl) rfl
theorem wm_X8_type : Cond.instanceMethod yX8_type ∈ gW := gW_4 (List.mem_of_getElem? (i := 140) rfl) rfl
theorem wl_X8_type : Cond.selects RX8 yX8_type yX8_type ∈ gW := gW_4 (List.mem_of_getElem? (i := 141) rfl) rfl
theorem wc_X8_clearText : Cond.code yX8_clearText cX8_clearText 2 (some .int) ∈ gW := gW_4 (List.mem_of_getElem? (i := 146) rfl) rfl
theorem wm_X8_clearText : Cond.instanceMethod yX8_clearText ∈ gW := gW_4 (List.mem_of_getElem? (i := 144) rfl) rfl
theorem wl_X8_clearText : Cond.selects RX8 yX8_clearText yX8_clearText ∈ gW := gW_4 (List.mem_of_getElem? (i := 145) rfl) rfl
theorem wc_X8_fault : Cond.code yX8_fault cX8_fault 2 (some .int) ∈ gW := gW_4 (List.mem_of_getElem? (i := 150) rfl) rfl
theorem wm_X8_fault : Cond.instanceMethod yX8_fault ∈ gW := gW_4 (List.mem_of_getElem? (i := 148) rfl) rfl
theorem wl_X8_fault : Cond.selects RX8 yX8_fault yX8_fault ∈ gW := gW_4 (List.mem_of_getElem? (i := 149) rfl) rfl
theorem wc_X8_hasFault : Cond.code yX8_hasFault cX8_hasFault 5 (some .boolean) ∈ gW := gW_4 (List.mem_of_getElem? (i := 154) rfl) rfl
theorem wm_X8_hasFault : Cond.instanceMethod yX8_hasFault ∈ gW := gW_4 (List.mem_of_getElem? (i := 153) rfl) rfl
theorem wl_X8_hasFault : Cond.selects RX8 yX8_hasFault yX8_hasFault ∈ gW := gW_p2 (q := (yX8_hasFault, 12)) (List.mem_of_getElem? (i := 12) rfl)
theorem wc_X8_readsComment : Cond.code yX8_readsComment cX8_readsComment 1 (some .boolean) ∈ gW := gW_4 (List.mem_of_getElem? (i := 158) rfl) rfl
theorem wm_X8_readsComment : Cond.instanceMethod yX8_readsComment ∈ gW := gW_4 (List.mem_of_getElem? (i := 157) rfl) rfl
theorem wl_X8_readsComment : Cond.selects RX8 yX8_readsComment yX8_readsComment ∈ gW := gW_p2 (q := (yX8_readsComment, 12)) (List.mem_of_getElem? (i := 13) rfl)
theorem wc_X8_readNumber : Cond.code yX8_readNumber cX8_readNumber 4 (some .int) ∈ gW := gW_4 (List.mem_of_getElem? (i := 162) rfl) rfl
theorem wm_X8_readNumber : Cond.instanceMethod yX8_readNumber ∈ gW := gW_4 (List.mem_of_getElem? (i := 161) rfl) rfl
theorem wl_X8_readNumber : Cond.selects RX8 yX8_readNumber yX8_readNumber ∈ gW := gW_p2 (q := (yX8_readNumber, 12)) (List.mem_of_getElem? (i := 14) rfl)
theorem wc_X8_here : Cond.code yX8_here cX8_here 1 (some .int) ∈ gW := gW_4 (List.mem_of_getElem? (i := 166) rfl) rfl
theorem wm_X8_here : Cond.instanceMethod yX8_here ∈ gW := gW_4 (List.mem_of_getElem? (i := 165) rfl) rfl
theorem wl_X8_here : Cond.selects RX8 yX8_here yX8_here ∈ gW := gW_p2 (q := (yX8_here, 12)) (List.mem_of_getElem? (i := 15) rfl)
theorem wc_X8_takes : Cond.code yX8_takes cX8_takes 3 (some .boolean) ∈ gW := gW_4 (List.mem_of_getElem? (i := 170) rfl) rfl
theorem wm_X8_takes : Cond.instanceMethod yX8_takes ∈ gW := gW_4 (List.mem_of_getElem? (i := 169) rfl) rfl
theorem wl_X8_takes : Cond.selects RX8 yX8_takes yX8_takes ∈ gW := gW_p3 (q := (yX8_takes, 12)) (List.mem_of_getElem? (i := 0) rfl)
theorem wc_X8_enter : Cond.code yX8_enter cX8_enter 6 (some .int) ∈ gW := gW_4 (List.mem_of_getElem? (i := 174) rfl) rfl
theorem wm_X8_enter : Cond.instanceMethod yX8_enter ∈ gW := gW_4 (List.mem_of_getElem? (i := 172) rfl) rfl
theorem wl_X8_enter : Cond.selects RX8 yX8_enter yX8_enter ∈ gW := gW_4 (List.mem_of_getElem? (i := 173) rfl) rfl
theorem wf_X4_9 : Cond.fieldLink RX4 9 "CommitteeBallots$Members" "weight" "[I" ∈ gW := gW_1 (List.mem_of_getElem? (i := 33) rfl) rfl
theorem wf_X5_86 : Cond.fieldLink RX5 86 "CommitteeBallots$Members" "weight" "[I" ∈ gW := gW_1 (List.mem_of_getElem? (i := 34) rfl) rfl
theorem wf_X7_88 : Cond.fieldLink RX7 88 "CommitteeBallots$Members" "weight" "[I" ∈ gW := gW_1 (List.mem_of_getElem? (i := 35) rfl) rfl
theorem wf_X1_51 : Cond.fieldLink RX1 51 "CommitteeBallots$Members" "weight" "[I" ∈ gW := gW_1 (List.mem_of_getElem? (i := 36) rfl) rfl
theorem wf_X4_15 : Cond.fieldLink RX4 15 "CommitteeBallots$Members" "misses" "[I" ∈ gW := gW_1 (List.mem_of_getElem? (i := 37) rfl) rfl
theorem wf_X5_72 : Cond.fieldLink RX5 72 "CommitteeBallots$Members" "misses" "[I" ∈ gW := gW_1 (List.mem_of_getElem? (i := 38) rfl) rfl
theorem wf_X7_91 : Cond.fieldLink RX7 91 "CommitteeBallots$Members" "misses" "[I" ∈ gW := gW_1 (List.mem_of_getElem? (i := 39) rfl) rfl
theorem wf_X4_18 : Cond.fieldLink RX4 18 "CommitteeBallots$Members" "given" "[I" ∈ gW := gW_1 (List.mem_of_getElem? (i := 40) rfl) rfl
theorem wf_X7_100 : Cond.fieldLink RX7 100 "CommitteeBallots$Members" "given" "[I" ∈ gW := gW_1 (List.mem_of_getElem? (i := 41) rfl) rfl
theorem wf_X5_106 : Cond.fieldLink RX5 106 "CommitteeBallots$Members" "given" "[I" ∈ gW := gW_1 (List.mem_of_getElem? (i := 42) rfl) rfl
theorem wf_X4_21 : Cond.fieldLink RX4 21 "CommitteeBallots$Members" "ballotsVoted" "[I" ∈ gW := gW_1 (List.mem_of_getElem? (i := 43) rfl) rfl
theorem wf_X7_112 : Cond.fieldLink RX7 112 "CommitteeBallots$Members" "ballotsVoted" "[I" ∈ gW := gW_1 (List.mem_of_getElem? (i := 44) rfl) rfl
theorem wf_X7_34 : Cond.fieldLink RX7 34 "CommitteeBallots$Members" "size" "I" ∈ gW := gW_1 (List.mem_of_getElem? (i := 45) rfl) rfl
theorem wf_X4_28 : Cond.fieldLink RX4 28 "CommitteeBallots$Members" "size" "I" ∈ gW := gW_1 (List.mem_of_getElem? (i := 46) rfl) rfl
theorem wf_X5_75 : Cond.fieldLink RX5 75 "CommitteeBallots$Members" "size" "I" ∈ gW := gW_1 (List.mem_of_getElem? (i := 47) rfl) rfl
theorem wf_X2_9 : Cond.fieldLink RX2 9 "CommitteeBallots$Document" "number" "[I" ∈ gW := gW_1 (List.mem_of_getElem? (i := 66) rfl) rfl
theorem wf_X7_128 : Cond.fieldLink RX7 128 "CommitteeBallots$Document" "number" "[I" ∈ gW := gW_1 (List.mem_of_getElem? (i := 67) rfl) rfl
theorem wf_X2_15 : Cond.fieldLink RX2 15 "CommitteeBallots$Document" "present" "[I" ∈ gW := gW_1 (List.mem_of_getElem? (i := 68) rfl) rfl
theorem wf_X7_115 : Cond.fieldLink RX7 115 "CommitteeBallots$Document" "present" "[I" ∈ gW := gW_1 (List.mem_of_getElem? (i := 69) rfl) rfl
theorem wf_X5_115 : Cond.fieldLink RX5 115 "CommitteeBallots$Document" "present" "[I" ∈ gW := gW_1 (List.mem_of_getElem? (i := 70) rfl) rfl
theorem wf_X2_18 : Cond.fieldLink RX2 18 "CommitteeBallots$Document" "atOpening" "[I" ∈ gW := gW_1 (List.mem_of_getElem? (i := 71) rfl) rfl
theorem wf_X5_118 : Cond.fieldLink RX5 118 "CommitteeBallots$Document" "atOpening" "[I" ∈ gW := gW_1 (List.mem_of_getElem? (i := 72) rfl) rfl
theorem wf_X2_21 : Cond.fieldLink RX2 21 "CommitteeBallots$Document" "ballotBehind" "[I" ∈ gW := gW_1 (List.mem_of_getElem? (i := 73) rfl) rfl
theorem wf_X5_170 : Cond.fieldLink RX5 170 "CommitteeBallots$Document" "ballotBehind" "[I" ∈ gW := gW_1 (List.mem_of_getElem? (i := 74) rfl) rfl
theorem wf_X7_237 : Cond.fieldLink RX7 237 "CommitteeBallots$Document" "ballotBehind" "[I" ∈ gW := gW_1 (List.mem_of_getElem? (i := 75) rfl) rfl
theorem wf_X2_24 : Cond.fieldLink RX2 24 "CommitteeBallots$Document" "inEdition" "[I" ∈ gW := gW_1 (List.mem_of_getElem? (i := 76) rfl) rfl
theorem wf_X7_121 : Cond.fieldLink RX7 121 "CommitteeBallots$Document" "inEdition" "[I" ∈ gW := gW_1 (List.mem_of_getElem? (i := 77) rfl) rfl
theorem wf_X5_178 : Cond.fieldLink RX5 178 "CommitteeBallots$Document" "inEdition" "[I" ∈ gW := gW_1 (List.mem_of_getElem? (i := 78) rfl) rfl
theorem wf_X2_27 : Cond.fieldLink RX2 27 "CommitteeBallots$Document" "commentBehind" "[I" ∈ gW := gW_1 (List.mem_of_getElem? (i := 79) rfl) rfl
theorem wf_X5_181 : Cond.fieldLink RX5 181 "CommitteeBallots$Document" "commentBehind" "[I" ∈ gW := gW_1 (List.mem_of_getElem? (i := 80) rfl) rfl
theorem wf_X7_240 : Cond.fieldLink RX7 240 "CommitteeBallots$Document" "commentBehind" "[I" ∈ gW := gW_1 (List.mem_of_getElem? (i := 81) rfl) rfl
theorem wf_X2_38 : Cond.fieldLink RX2 38 "CommitteeBallots$Document" "size" "I" ∈ gW := gW_1 (List.mem_of_getElem? (i := 82) rfl) rfl
theorem wf_X7_70 : Cond.fieldLink RX7 70 "CommitteeBallots$Document" "size" "I" ∈ gW := gW_1 (List.mem_of_getElem? (i := 83) rfl) rfl
theorem wf_X5_173 : Cond.fieldLink RX5 173 "CommitteeBallots$Document" "size" "I" ∈ gW := gW_1 (List.mem_of_getElem? (i := 84) rfl) rfl
theorem wf_X2_30 : Cond.fieldLink RX2 30 "CommitteeBallots$Document" "edition" "I" ∈ gW := gW_1 (List.mem_of_getElem? (i := 85) rfl) rfl
theorem wf_X7_130 : Cond.fieldLink RX7 130 "CommitteeBallots$Document" "edition" "I" ∈ gW := gW_1 (List.mem_of_getElem? (i := 86) rfl) rfl
theorem wf_X5_167 : Cond.fieldLink RX5 167 "CommitteeBallots$Document" "edition" "I" ∈ gW := gW_1 (List.mem_of_getElem? (i := 87) rfl) rfl
theorem wf_X0_9 : Cond.fieldLink RX0 9 "CommitteeBallots$Ballot" "sums" "[I" ∈ gW := gW_1 (List.mem_of_getElem? (i := 111) rfl) rfl
theorem wf_X5_121 : Cond.fieldLink RX5 121 "CommitteeBallots$Ballot" "sums" "[I" ∈ gW := gW_1 (List.mem_of_getElem? (i := 112) rfl) rfl
theorem wf_X7_164 : Cond.fieldLink RX7 164 "CommitteeBallots$Ballot" "sums" "[I" ∈ gW := gW_1 (List.mem_of_getElem? (i := 113) rfl) rfl
theorem wf_X0_19 : Cond.fieldLink RX0 19 "CommitteeBallots$Ballot" "isOpen" "Z" ∈ gW := gW_1 (List.mem_of_getElem? (i := 114) rfl) rfl
theorem wf_X5_89 : Cond.fieldLink RX5 89 "CommitteeBallots$Ballot" "isOpen" "Z" ∈ gW := gW_1 (List.mem_of_getElem? (i := 115) rfl) rfl
theorem wf_X7_136 : Cond.fieldLink RX7 136 "CommitteeBallots$Ballot" "isOpen" "Z" ∈ gW := gW_1 (List.mem_of_getElem? (i := 116) rfl) rfl
theorem wf_X0_23 : Cond.fieldLink RX0 23 "CommitteeBallots$Ballot" "broughtEdition" "Z" ∈ gW := gW_1 (List.mem_of_getElem? (i := 117) rfl) rfl
theorem wf_X5_93 : Cond.fieldLink RX5 93 "CommitteeBallots$Ballot" "broughtEdition" "Z" ∈ gW := gW_1 (List.mem_of_getElem? (i := 118) rfl) rfl
theorem wf_X0_26 : Cond.fieldLink RX0 26 "CommitteeBallots$Ballot" "number" "I" ∈ gW := gW_1 (List.mem_of_getElem? (i := 119) rfl) rfl
theorem wf_X7_56 : Cond.fieldLink RX7 56 "CommitteeBallots$Ballot" "number" "I" ∈ gW := gW_1 (List.mem_of_getElem? (i := 120) rfl) rfl
theorem wf_X5_96 : Cond.fieldLink RX5 96 "CommitteeBallots$Ballot" "number" "I" ∈ gW := gW_1 (List.mem_of_getElem? (i := 121) rfl) rfl
theorem wf_X0_30 : Cond.fieldLink RX0 30 "CommitteeBallots$Ballot" "lastDay" "I" ∈ gW := gW_1 (List.mem_of_getElem? (i := 122) rfl) rfl
theorem wf_X5_99 : Cond.fieldLink RX5 99 "CommitteeBallots$Ballot" "lastDay" "I" ∈ gW := gW_1 (List.mem_of_getElem? (i := 123) rfl) rfl
theorem wf_X7_152 : Cond.fieldLink RX7 152 "CommitteeBallots$Ballot" "lastDay" "I" ∈ gW := gW_1 (List.mem_of_getElem? (i := 124) rfl) rfl
theorem wf_X1_9 : Cond.fieldLink RX1 9 "CommitteeBallots$Comments" "member" "[I" ∈ gW := gW_1 (List.mem_of_getElem? (i := 142) rfl) rfl
theorem wf_X7_182 : Cond.fieldLink RX7 182 "CommitteeBallots$Comments" "member" "[I" ∈ gW := gW_1 (List.mem_of_getElem? (i := 143) rfl) rfl
theorem wf_X1_15 : Cond.fieldLink RX1 15 "CommitteeBallots$Comments" "place" "[I" ∈ gW := gW_1 (List.mem_of_getElem? (i := 144) rfl) rfl
theorem wf_X5_153 : Cond.fieldLink RX5 153 "CommitteeBallots$Comments" "place" "[I" ∈ gW := gW_1 (List.mem_of_getElem? (i := 145) rfl) rfl
theorem wf_X7_185 : Cond.fieldLink RX7 185 "CommitteeBallots$Comments" "place" "[I" ∈ gW := gW_1 (List.mem_of_getElem? (i := 146) rfl) rfl
theorem wf_X1_18 : Cond.fieldLink RX1 18 "CommitteeBallots$Comments" "kind" "[I" ∈ gW := gW_1 (List.mem_of_getElem? (i := 147) rfl) rfl
theorem wf_X7_188 : Cond.fieldLink RX7 188 "CommitteeBallots$Comments" "kind" "[I" ∈ gW := gW_1 (List.mem_of_getElem? (i := 148) rfl) rfl
theorem wf_X1_21 : Cond.fieldLink RX1 21 "CommitteeBallots$Comments" "proposed" "[I" ∈ gW := gW_1 (List.mem_of_getElem? (i := 149) rfl) rfl
theorem wf_X7_191 : Cond.fieldLink RX7 191 "CommitteeBallots$Comments" "proposed" "[I" ∈ gW := gW_1 (List.mem_of_getElem? (i := 150) rfl) rfl
theorem wf_X1_24 : Cond.fieldLink RX1 24 "CommitteeBallots$Comments" "standing" "[I" ∈ gW := gW_1 (List.mem_of_getElem? (i := 151) rfl) rfl
theorem wf_X5_187 : Cond.fieldLink RX5 187 "CommitteeBallots$Comments" "standing" "[I" ∈ gW := gW_1 (List.mem_of_getElem? (i := 152) rfl) rfl
theorem wf_X7_194 : Cond.fieldLink RX7 194 "CommitteeBallots$Comments" "standing" "[I" ∈ gW := gW_1 (List.mem_of_getElem? (i := 153) rfl) rfl
theorem wf_X1_27 : Cond.fieldLink RX1 27 "CommitteeBallots$Comments" "day" "[I" ∈ gW := gW_1 (List.mem_of_getElem? (i := 154) rfl) rfl
theorem wf_X7_200 : Cond.fieldLink RX7 200 "CommitteeBallots$Comments" "day" "[I" ∈ gW := gW_1 (List.mem_of_getElem? (i := 155) rfl) rfl
theorem wf_X1_30 : Cond.fieldLink RX1 30 "CommitteeBallots$Comments" "gave" "[I" ∈ gW := gW_1 (List.mem_of_getElem? (i := 156) rfl) rfl
theorem wf_X7_206 : Cond.fieldLink RX7 206 "CommitteeBallots$Comments" "gave" "[I" ∈ gW := gW_1 (List.mem_of_getElem? (i := 157) rfl) rfl
theorem wf_X1_33 : Cond.fieldLink RX1 33 "CommitteeBallots$Comments" "turn" "[I" ∈ gW := gW_1 (List.mem_of_getElem? (i := 158) rfl) rfl
theorem wf_X1_40 : Cond.fieldLink RX1 40 "CommitteeBallots$Comments" "size" "I" ∈ gW := gW_1 (List.mem_of_getElem? (i := 159) rfl) rfl
theorem wf_X5_102 : Cond.fieldLink RX5 102 "CommitteeBallots$Comments" "size" "I" ∈ gW := gW_1 (List.mem_of_getElem? (i := 160) rfl) rfl
theorem wf_X7_140 : Cond.fieldLink RX7 140 "CommitteeBallots$Comments" "size" "I" ∈ gW := gW_1 (List.mem_of_getElem? (i := 161) rfl) rfl
theorem wf_X1_44 : Cond.fieldLink RX1 44 "CommitteeBallots$Comments" "turns" "I" ∈ gW := gW_1 (List.mem_of_getElem? (i := 162) rfl) rfl
theorem wf_X5_103 : Cond.fieldLink RX5 103 "CommitteeBallots$Comments" "turns" "I" ∈ gW := gW_1 (List.mem_of_getElem? (i := 163) rfl) rfl
theorem wf_X5_12 : Cond.fieldLink RX5 12 "CommitteeBallots$State" "members" "LCommitteeBallots$Members;" ∈ gW := gW_1 (List.mem_of_getElem? (i := 194) rfl) rfl
theorem wf_X7_30 : Cond.fieldLink RX7 30 "CommitteeBallots$State" "members" "LCommitteeBallots$Members;" ∈ gW := gW_1 (List.mem_of_getElem? (i := 195) rfl) rfl
theorem wf_X5_21 : Cond.fieldLink RX5 21 "CommitteeBallots$State" "document" "LCommitteeBallots$Document;" ∈ gW := gW_1 (List.mem_of_getElem? (i := 196) rfl) rfl
theorem wf_X7_61 : Cond.fieldLink RX7 61 "CommitteeBallots$State" "document" "LCommitteeBallots$Document;" ∈ gW := gW_1 (List.mem_of_getElem? (i := 197) rfl) rfl
theorem wf_X5_28 : Cond.fieldLink RX5 28 "CommitteeBallots$State" "ballot" "LCommitteeBallots$Ballot;" ∈ gW := gW_1 (List.mem_of_getElem? (i := 198) rfl) rfl
theorem wf_X7_52 : Cond.fieldLink RX7 52 "CommitteeBallots$State" "ballot" "LCommitteeBallots$Ballot;" ∈ gW := gW_1 (List.mem_of_getElem? (i := 199) rfl) rfl
theorem wf_X5_35 : Cond.fieldLink RX5 35 "CommitteeBallots$State" "comments" "LCommitteeBallots$Comments;" ∈ gW := gW_1 (List.mem_of_getElem? (i := 200) rfl) rfl
theorem wf_X7_103 : Cond.fieldLink RX7 103 "CommitteeBallots$State" "comments" "LCommitteeBallots$Comments;" ∈ gW := gW_1 (List.mem_of_getElem? (i := 201) rfl) rfl
theorem wf_X5_48 : Cond.fieldLink RX5 48 "CommitteeBallots$State" "settings" "[I" ∈ gW := gW_1 (List.mem_of_getElem? (i := 202) rfl) rfl
theorem wf_X7_82 : Cond.fieldLink RX7 82 "CommitteeBallots$State" "settings" "[I" ∈ gW := gW_1 (List.mem_of_getElem? (i := 203) rfl) rfl
theorem wf_X5_68 : Cond.fieldLink RX5 68 "CommitteeBallots$State" "today" "I" ∈ gW := gW_1 (List.mem_of_getElem? (i := 204) rfl) rfl
theorem wf_X7_133 : Cond.fieldLink RX7 133 "CommitteeBallots$State" "today" "I" ∈ gW := gW_1 (List.mem_of_getElem? (i := 205) rfl) rfl
theorem wf_X3_11 : Cond.fieldLink RX3 11 "CommitteeBallots$History" "states" "[LCommitteeBallots$State;" ∈ gW := gW_1 (List.mem_of_getElem? (i := 228) rfl) rfl
theorem wf_X3_18 : Cond.fieldLink RX3 18 "CommitteeBallots$History" "oldest" "I" ∈ gW := gW_1 (List.mem_of_getElem? (i := 229) rfl) rfl
theorem wf_X3_22 : Cond.fieldLink RX3 22 "CommitteeBallots$History" "size" "I" ∈ gW := gW_1 (List.mem_of_getElem? (i := 230) rfl) rfl
theorem wf_X7_148 : Cond.fieldLink RX7 148 "CommitteeBallots$History" "size" "I" ∈ gW := gW_1 (List.mem_of_getElem? (i := 231) rfl) rfl
theorem wf_X6_9 : Cond.fieldLink RX6 9 "CommitteeBallots$Text" "signs" "[C" ∈ gW := gW_2 (List.mem_of_getElem? (i := 5) rfl) rfl
theorem wf_X6_15 : Cond.fieldLink RX6 15 "CommitteeBallots$Text" "length" "I" ∈ gW := gW_2 (List.mem_of_getElem? (i := 6) rfl) rfl
theorem wf_X7_149 : Cond.fieldLink RX7 149 "CommitteeBallots$Text" "length" "I" ∈ gW := gW_2 (List.mem_of_getElem? (i := 7) rfl) rfl
theorem wf_X6_19 : Cond.fieldLink RX6 19 "CommitteeBallots$Text" "start" "I" ∈ gW := gW_2 (List.mem_of_getElem? (i := 8) rfl) rfl
theorem wf_X7_252 : Cond.fieldLink RX7 252 "CommitteeBallots$Text" "start" "I" ∈ gW := gW_2 (List.mem_of_getElem? (i := 9) rfl) rfl
theorem wf_X6_22 : Cond.fieldLink RX6 22 "CommitteeBallots$Text" "end" "I" ∈ gW := gW_2 (List.mem_of_getElem? (i := 10) rfl) rfl
theorem wf_X6_32 : Cond.fieldLink RX6 32 "CommitteeBallots$Text" "clause" "I" ∈ gW := gW_2 (List.mem_of_getElem? (i := 11) rfl) rfl
theorem wf_X7_262 : Cond.fieldLink RX7 262 "CommitteeBallots$Text" "clause" "I" ∈ gW := gW_2 (List.mem_of_getElem? (i := 12) rfl) rfl
theorem wf_X6_39 : Cond.fieldLink RX6 39 "CommitteeBallots$Text" "kind" "I" ∈ gW := gW_2 (List.mem_of_getElem? (i := 13) rfl) rfl
theorem wf_X7_265 : Cond.fieldLink RX7 265 "CommitteeBallots$Text" "kind" "I" ∈ gW := gW_2 (List.mem_of_getElem? (i := 14) rfl) rfl
theorem wf_X6_42 : Cond.fieldLink RX6 42 "CommitteeBallots$Text" "proposed" "I" ∈ gW := gW_2 (List.mem_of_getElem? (i := 15) rfl) rfl
theorem wf_X7_267 : Cond.fieldLink RX7 267 "CommitteeBallots$Text" "proposed" "I" ∈ gW := gW_2 (List.mem_of_getElem? (i := 16) rfl) rfl
theorem wf_X7_10 : Cond.fieldLink RX7 10 "CommitteeBallots" "now" "LCommitteeBallots$State;" ∈ gW := gW_2 (List.mem_of_getElem? (i := 33) rfl) rfl
theorem wf_X7_19 : Cond.fieldLink RX7 19 "CommitteeBallots" "history" "LCommitteeBallots$History;" ∈ gW := gW_2 (List.mem_of_getElem? (i := 34) rfl) rfl
theorem wf_X7_26 : Cond.fieldLink RX7 26 "CommitteeBallots" "text" "LCommitteeBallots$Text;" ∈ gW := gW_2 (List.mem_of_getElem? (i := 35) rfl) rfl
theorem wf_X7_75 : Cond.fieldLink RX7 75 "CommitteeBallots" "LEAST_SETTINGS" "[I" ∈ gW := gW_2 (List.mem_of_getElem? (i := 110) rfl) rfl
theorem wf_X7_79 : Cond.fieldLink RX7 79 "CommitteeBallots" "GREATEST_SETTINGS" "[I" ∈ gW := gW_2 (List.mem_of_getElem? (i := 112) rfl) rfl
theorem wf_X8_7 : Cond.fieldLink RX8 7 "CommitteeBallotsModel" "now" "[I" ∈ gW := gW_3 (List.mem_of_getElem? (i := 159) rfl) rfl
theorem wf_X8_13 : Cond.fieldLink RX8 13 "CommitteeBallotsModel" "past" "[I" ∈ gW := gW_3 (List.mem_of_getElem? (i := 160) rfl) rfl
theorem wf_X8_19 : Cond.fieldLink RX8 19 "CommitteeBallotsModel" "saved" "I" ∈ gW := gW_3 (List.mem_of_getElem? (i := 161) rfl) rfl
theorem wf_X8_16 : Cond.fieldLink RX8 16 "CommitteeBallotsModel" "text" "[I" ∈ gW := gW_3 (List.mem_of_getElem? (i := 162) rfl) rfl
theorem wf_X8_70 : Cond.fieldLink RX8 70 "CommitteeBallotsModel" "length" "I" ∈ gW := gW_3 (List.mem_of_getElem? (i := 163) rfl) rfl
theorem wf_X8_117 : Cond.fieldLink RX8 117 "CommitteeBallotsModel" "spot" "I" ∈ gW := gW_3 (List.mem_of_getElem? (i := 164) rfl) rfl
theorem wf_X8_126 : Cond.fieldLink RX8 126 "CommitteeBallotsModel" "readClause" "I" ∈ gW := gW_3 (List.mem_of_getElem? (i := 165) rfl) rfl
theorem wf_X8_129 : Cond.fieldLink RX8 129 "CommitteeBallotsModel" "readKind" "I" ∈ gW := gW_3 (List.mem_of_getElem? (i := 166) rfl) rfl
theorem wf_X8_135 : Cond.fieldLink RX8 135 "CommitteeBallotsModel" "readValue" "I" ∈ gW := gW_3 (List.mem_of_getElem? (i := 167) rfl) rfl
theorem wf_X8_144 : Cond.fieldLink RX8 144 "CommitteeBallotsModel" "faultAt" "I" ∈ gW := gW_3 (List.mem_of_getElem? (i := 168) rfl) rfl
theorem wf_X8_147 : Cond.fieldLink RX8 147 "CommitteeBallotsModel" "faultWhy" "I" ∈ gW := gW_3 (List.mem_of_getElem? (i := 169) rfl) rfl
theorem wf_X8_138 : Cond.fieldLink RX8 138 "CommitteeBallotsModel" "readMany" "I" ∈ gW := gW_3 (List.mem_of_getElem? (i := 170) rfl) rfl
theorem wk_L_9 : Cond.methodLink RL 9 yX7_init ∈ gW := gW_1 (List.mem_of_getElem? (i := 15) rfl) rfl
theorem wk_X7_1 : Cond.methodLink RX7 1 ⟨"java/lang/Object", "<init>", "()V"⟩ ∈ gW := gW_1 (List.mem_of_getElem? (i := 18) rfl) rfl
theorem wk_X5_3 : Cond.methodLink RX5 3 ⟨"java/lang/Object", "<init>", "()V"⟩ ∈ gW := gW_1 (List.mem_of_getElem? (i := 26) rfl) rfl
theorem wk_X4_3 : Cond.methodLink RX4 3 ⟨"java/lang/Object", "<init>", "()V"⟩ ∈ gW := gW_1 (List.mem_of_getElem? (i := 32) rfl) rfl
theorem wk_X2_3 : Cond.methodLink RX2 3 ⟨"java/lang/Object", "<init>", "()V"⟩ ∈ gW := gW_1 (List.mem_of_getElem? (i := 65) rfl) rfl
theorem wk_X0_3 : Cond.methodLink RX0 3 ⟨"java/lang/Object", "<init>", "()V"⟩ ∈ gW := gW_1 (List.mem_of_getElem? (i := 110) rfl) rfl
theorem wk_X1_3 : Cond.methodLink RX1 3 ⟨"java/lang/Object", "<init>", "()V"⟩ ∈ gW := gW_1 (List.mem_of_getElem? (i := 141) rfl) rfl
theorem wk_X5_43 : Cond.methodLink RX5 43 ⟨"[I", "clone", "()Ljava/lang/Object;"⟩ ∈ gW := gW_1 (List.mem_of_getElem? (i := 187) rfl) rfl
theorem wk_X7_18 : Cond.methodLink RX7 18 yX3_init ∈ gW := gW_1 (List.mem_of_getElem? (i := 221) rfl) rfl
theorem wk_X3_3 : Cond.methodLink RX3 3 ⟨"java/lang/Object", "<init>", "()V"⟩ ∈ gW := gW_1 (List.mem_of_getElem? (i := 224) rfl) rfl
theorem wk_X6_3 : Cond.methodLink RX6 3 ⟨"java/lang/Object", "<init>", "()V"⟩ ∈ gW := gW_2 (List.mem_of_getElem? (i := 4) rfl) rfl
theorem wk_L_13 : Cond.methodLink RL 13 yX7_addMember ∈ gW := gW_2 (List.mem_of_getElem? (i := 43) rfl) rfl
theorem wk_X7_40 : Cond.methodLink RX7 40 yX3_keep ∈ gW := gW_2 (List.mem_of_getElem? (i := 47) rfl) rfl
theorem wk_X3_25 : Cond.methodLink RX3 25 yX5_copyFrom ∈ gW := gW_2 (List.mem_of_getElem? (i := 51) rfl) rfl
theorem wk_X5_51 : Cond.methodLink RX5 51 yX4_copyFrom ∈ gW := gW_2 (List.mem_of_getElem? (i := 55) rfl) rfl
theorem wk_X7_272 : Cond.methodLink RX7 272 yJ9_min_7cf53 ∈ gW := gW_2 (List.mem_of_getElem? (i := 62) rfl) rfl
theorem wk_X7_275 : Cond.methodLink RX7 275 ⟨"java/lang/System", "arraycopy", "(Ljava/lang/Object;ILjava/lang/Object;II)V"⟩ ∈ gW := gW_2 (List.mem_of_getElem? (i := 65) rfl) rfl
theorem wk_X5_55 : Cond.methodLink RX5 55 yX2_copyFrom ∈ gW := gW_2 (List.mem_of_getElem? (i := 68) rfl) rfl
theorem wk_X5_58 : Cond.methodLink RX5 58 yX0_copyFrom ∈ gW := gW_2 (List.mem_of_getElem? (i := 73) rfl) rfl
theorem wk_X5_61 : Cond.methodLink RX5 61 yX1_copyFrom ∈ gW := gW_2 (List.mem_of_getElem? (i := 78) rfl) rfl
theorem wk_X7_44 : Cond.methodLink RX7 44 yX4_append ∈ gW := gW_2 (List.mem_of_getElem? (i := 84) rfl) rfl
theorem wk_L_18 : Cond.methodLink RL 18 yX7_addClause ∈ gW := gW_2 (List.mem_of_getElem? (i := 88) rfl) rfl
theorem wk_X7_48 : Cond.methodLink RX7 48 yX7_isValue ∈ gW := gW_2 (List.mem_of_getElem? (i := 92) rfl) rfl
theorem wk_X7_65 : Cond.methodLink RX7 65 yX2_find ∈ gW := gW_2 (List.mem_of_getElem? (i := 95) rfl) rfl
theorem wk_X7_71 : Cond.methodLink RX7 71 yX2_insert ∈ gW := gW_2 (List.mem_of_getElem? (i := 99) rfl) rfl
theorem wk_X2_41 : Cond.methodLink RX2 41 yX2_slot ∈ gW := gW_2 (List.mem_of_getElem? (i := 103) rfl) rfl
theorem wk_L_23 : Cond.methodLink RL 23 yX7_set ∈ gW := gW_2 (List.mem_of_getElem? (i := 106) rfl) rfl
theorem wk_L_27 : Cond.methodLink RL 27 yX7_member ∈ gW := gW_2 (List.mem_of_getElem? (i := 114) rfl) rfl
theorem wk_X7_85 : Cond.methodLink RX7 85 yX4_has ∈ gW := gW_2 (List.mem_of_getElem? (i := 118) rfl) rfl
theorem wk_X7_94 : Cond.methodLink RX7 94 yX5_isLapsed ∈ gW := gW_2 (List.mem_of_getElem? (i := 122) rfl) rfl
theorem wk_X7_97 : Cond.methodLink RX7 97 yX4_hasVoted ∈ gW := gW_2 (List.mem_of_getElem? (i := 126) rfl) rfl
theorem wk_X7_107 : Cond.methodLink RX7 107 yX1_numberOf ∈ gW := gW_2 (List.mem_of_getElem? (i := 130) rfl) rfl
theorem wk_L_31 : Cond.methodLink RL 31 yX7_value ∈ gW := gW_2 (List.mem_of_getElem? (i := 134) rfl) rfl
theorem wk_L_35 : Cond.methodLink RL 35 yX7_valueIn ∈ gW := gW_2 (List.mem_of_getElem? (i := 138) rfl) rfl
theorem wk_X7_118 : Cond.methodLink RX7 118 yX2_hasEdition ∈ gW := gW_2 (List.mem_of_getElem? (i := 142) rfl) rfl
theorem wk_X7_124 : Cond.methodLink RX7 124 yX2_slot ∈ gW := gW_2 (List.mem_of_getElem? (i := 146) rfl) rfl
theorem wk_L_39 : Cond.methodLink RL 39 yX7_clause ∈ gW := gW_2 (List.mem_of_getElem? (i := 147) rfl) rfl
theorem wk_L_43 : Cond.methodLink RL 43 yX7_count ∈ gW := gW_2 (List.mem_of_getElem? (i := 151) rfl) rfl
theorem wk_X7_141 : Cond.methodLink RX7 141 yX1_pending ∈ gW := gW_2 (List.mem_of_getElem? (i := 155) rfl) rfl
theorem wk_X7_145 : Cond.methodLink RX7 145 yX5_activeWeight ∈ gW := gW_2 (List.mem_of_getElem? (i := 159) rfl) rfl
theorem wk_X5_78 : Cond.methodLink RX5 78 yX5_activeWeightIn ∈ gW := gW_2 (List.mem_of_getElem? (i := 163) rfl) rfl
theorem wk_X5_82 : Cond.methodLink RX5 82 yX5_isLapsed ∈ gW := gW_2 (List.mem_of_getElem? (i := 167) rfl) rfl
theorem wk_L_47 : Cond.methodLink RL 47 yX7_open ∈ gW := gW_2 (List.mem_of_getElem? (i := 168) rfl) rfl
theorem wk_X7_155 : Cond.methodLink RX7 155 yX5_openBallot ∈ gW := gW_2 (List.mem_of_getElem? (i := 172) rfl) rfl
theorem wk_X5_109 : Cond.methodLink RX5 109 yJ7_fill_53178 ∈ gW := gW_2 (List.mem_of_getElem? (i := 176) rfl) rfl
theorem wk_L_52 : Cond.methodLink RL 52 yX7_vote ∈ gW := gW_2 (List.mem_of_getElem? (i := 179) rfl) rfl
theorem wk_X7_158 : Cond.methodLink RX7 158 yX4_voters ∈ gW := gW_2 (List.mem_of_getElem? (i := 183) rfl) rfl
theorem wk_X4_32 : Cond.methodLink RX4 32 yX4_hasVoted ∈ gW := gW_2 (List.mem_of_getElem? (i := 187) rfl) rfl
theorem wk_L_56 : Cond.methodLink RL 56 yX7_pass ∈ gW := gW_2 (List.mem_of_getElem? (i := 188) rfl) rfl
theorem wk_X7_161 : Cond.methodLink RX7 161 yX5_endBallot ∈ gW := gW_2 (List.mem_of_getElem? (i := 192) rfl) rfl
theorem wk_X5_137 : Cond.methodLink RX5 137 yX5_countVotes ∈ gW := gW_2 (List.mem_of_getElem? (i := 196) rfl) rfl
theorem wk_X5_124 : Cond.methodLink RX5 124 yX4_hasVoted ∈ gW := gW_2 (List.mem_of_getElem? (i := 200) rfl) rfl
theorem wk_X5_127 : Cond.methodLink RX5 127 yX5_sumFor ∈ gW := gW_2 (List.mem_of_getElem? (i := 201) rfl) rfl
theorem wk_X5_134 : Cond.methodLink RX5 134 yX1_hasTechnicalOf ∈ gW := gW_2 (List.mem_of_getElem? (i := 205) rfl) rfl
theorem wk_X5_130 : Cond.methodLink RX5 130 yX5_isCarriedBy ∈ gW := gW_2 (List.mem_of_getElem? (i := 209) rfl) rfl
theorem wk_X5_140 : Cond.methodLink RX5 140 yX4_noteMisses ∈ gW := gW_2 (List.mem_of_getElem? (i := 213) rfl) rfl
theorem wk_X5_143 : Cond.methodLink RX5 143 yX1_makeAllPending ∈ gW := gW_2 (List.mem_of_getElem? (i := 217) rfl) rfl
theorem wk_L_60 : Cond.methodLink RL 60 yX7_tally ∈ gW := gW_2 (List.mem_of_getElem? (i := 221) rfl) rfl
theorem wk_X7_167 : Cond.methodLink RX7 167 yX5_countVotes ∈ gW := gW_2 (List.mem_of_getElem? (i := 225) rfl) rfl
theorem wk_L_64 : Cond.methodLink RL 64 yX7_lacking ∈ gW := gW_2 (List.mem_of_getElem? (i := 226) rfl) rfl
theorem wk_X7_170 : Cond.methodLink RX7 170 yX7_dividedUp ∈ gW := gW_2 (List.mem_of_getElem? (i := 230) rfl) rfl
theorem wk_X7_173 : Cond.methodLink RX7 173 yJ9_max_7cf53 ∈ gW := gW_2 (List.mem_of_getElem? (i := 233) rfl) rfl
theorem wk_L_68 : Cond.methodLink RL 68 yX7_comment ∈ gW := gW_2 (List.mem_of_getElem? (i := 236) rfl) rfl
theorem wk_X7_178 : Cond.methodLink RX7 178 yX1_append ∈ gW := gW_3 (List.mem_of_getElem? (i := 0) rfl) rfl
theorem wk_L_73 : Cond.methodLink RL 73 yX7_told ∈ gW := gW_3 (List.mem_of_getElem? (i := 4) rfl) rfl
theorem wk_X7_181 : Cond.methodLink RX7 181 yX1_has ∈ gW := gW_3 (List.mem_of_getElem? (i := 8) rfl) rfl
theorem wk_X7_197 : Cond.methodLink RX7 197 yX1_isResolved ∈ gW := gW_3 (List.mem_of_getElem? (i := 12) rfl) rfl
theorem wk_X7_203 : Cond.methodLink RX7 203 yX1_gaveValue ∈ gW := gW_3 (List.mem_of_getElem? (i := 16) rfl) rfl
theorem wk_L_77 : Cond.methodLink RL 77 yX7_next ∈ gW := gW_3 (List.mem_of_getElem? (i := 20) rfl) rfl
theorem wk_X7_209 : Cond.methodLink RX7 209 yX1_firstPending ∈ gW := gW_3 (List.mem_of_getElem? (i := 24) rfl) rfl
theorem wk_X1_47 : Cond.methodLink RX1 47 yX1_isAhead ∈ gW := gW_3 (List.mem_of_getElem? (i := 28) rfl) rfl
theorem wk_L_81 : Cond.methodLink RL 81 yX7_resolve ∈ gW := gW_3 (List.mem_of_getElem? (i := 32) rfl) rfl
theorem wk_X7_213 : Cond.methodLink RX7 213 yX2_canGet ∈ gW := gW_3 (List.mem_of_getElem? (i := 36) rfl) rfl
theorem wk_X7_217 : Cond.methodLink RX7 217 yX5_settle ∈ gW := gW_3 (List.mem_of_getElem? (i := 40) rfl) rfl
theorem wk_X5_146 : Cond.methodLink RX5 146 yX1_resolveAs ∈ gW := gW_3 (List.mem_of_getElem? (i := 44) rfl) rfl
theorem wk_X5_150 : Cond.methodLink RX5 150 yX1_gaveValue ∈ gW := gW_3 (List.mem_of_getElem? (i := 48) rfl) rfl
theorem wk_X5_156 : Cond.methodLink RX5 156 yX1_pending ∈ gW := gW_3 (List.mem_of_getElem? (i := 49) rfl) rfl
theorem wk_X5_160 : Cond.methodLink RX5 160 yX2_isChanged ∈ gW := gW_3 (List.mem_of_getElem? (i := 50) rfl) rfl
theorem wk_X5_164 : Cond.methodLink RX5 164 yX5_bringEdition ∈ gW := gW_3 (List.mem_of_getElem? (i := 54) rfl) rfl
theorem wk_X5_174 : Cond.methodLink RX5 174 yX2_slot ∈ gW := gW_3 (List.mem_of_getElem? (i := 58) rfl) rfl
theorem wk_X5_184 : Cond.methodLink RX5 184 yX1_firstBehind ∈ gW := gW_3 (List.mem_of_getElem? (i := 59) rfl) rfl
theorem wk_X1_56 : Cond.methodLink RX1 56 yX1_gaveValue ∈ gW := gW_3 (List.mem_of_getElem? (i := 63) rfl) rfl
theorem wk_L_85 : Cond.methodLink RL 85 yX7_appeal ∈ gW := gW_3 (List.mem_of_getElem? (i := 64) rfl) rfl
theorem wk_X7_221 : Cond.methodLink RX7 221 yX4_isSet ∈ gW := gW_3 (List.mem_of_getElem? (i := 68) rfl) rfl
theorem wk_X7_224 : Cond.methodLink RX7 224 yX5_activeWeightIn ∈ gW := gW_3 (List.mem_of_getElem? (i := 72) rfl) rfl
theorem wk_X7_227 : Cond.methodLink RX7 227 yX5_reopen ∈ gW := gW_3 (List.mem_of_getElem? (i := 73) rfl) rfl
theorem wk_L_90 : Cond.methodLink RL 90 yX7_changes ∈ gW := gW_3 (List.mem_of_getElem? (i := 77) rfl) rfl
theorem wk_X7_231 : Cond.methodLink RX7 231 yX2_changesOf ∈ gW := gW_3 (List.mem_of_getElem? (i := 81) rfl) rfl
theorem wk_X2_45 : Cond.methodLink RX2 45 yX2_differs ∈ gW := gW_3 (List.mem_of_getElem? (i := 85) rfl) rfl
theorem wk_L_94 : Cond.methodLink RL 94 yX7_change ∈ gW := gW_3 (List.mem_of_getElem? (i := 89) rfl) rfl
theorem wk_X7_234 : Cond.methodLink RX7 234 yX2_placeOfChange ∈ gW := gW_3 (List.mem_of_getElem? (i := 93) rfl) rfl
theorem wk_L_98 : Cond.methodLink RL 98 yX7_undo ∈ gW := gW_3 (List.mem_of_getElem? (i := 97) rfl) rfl
theorem wk_X7_243 : Cond.methodLink RX7 243 yX3_restore ∈ gW := gW_3 (List.mem_of_getElem? (i := 101) rfl) rfl
theorem wk_L_102 : Cond.methodLink RL 102 yX7_type ∈ gW := gW_3 (List.mem_of_getElem? (i := 105) rfl) rfl
theorem wk_X7_246 : Cond.methodLink RX7 246 yX6_append ∈ gW := gW_3 (List.mem_of_getElem? (i := 109) rfl) rfl
theorem wk_L_106 : Cond.methodLink RL 106 yX7_clearText ∈ gW := gW_3 (List.mem_of_getElem? (i := 113) rfl) rfl
theorem wk_L_110 : Cond.methodLink RL 110 yX7_fault ∈ gW := gW_3 (List.mem_of_getElem? (i := 117) rfl) rfl
theorem wk_X7_249 : Cond.methodLink RX7 249 yX7_firstFault ∈ gW := gW_3 (List.mem_of_getElem? (i := 121) rfl) rfl
theorem wk_X7_255 : Cond.methodLink RX7 255 yX6_rewind ∈ gW := gW_3 (List.mem_of_getElem? (i := 125) rfl) rfl
theorem wk_X7_269 : Cond.methodLink RX7 269 yX6_isAtEnd ∈ gW := gW_3 (List.mem_of_getElem? (i := 129) rfl) rfl
theorem wk_X7_258 : Cond.methodLink RX7 258 yX6_readComment ∈ gW := gW_3 (List.mem_of_getElem? (i := 133) rfl) rfl
theorem wk_X6_25 : Cond.methodLink RX6 25 yX6_digitsAt ∈ gW := gW_3 (List.mem_of_getElem? (i := 137) rfl) rfl
theorem wk_X6_35 : Cond.methodLink RX6 35 yX6_signAt ∈ gW := gW_3 (List.mem_of_getElem? (i := 141) rfl) rfl
theorem wk_X6_29 : Cond.methodLink RX6 29 yX6_numberAt ∈ gW := gW_3 (List.mem_of_getElem? (i := 145) rfl) rfl
theorem wk_L_114 : Cond.methodLink RL 114 yX7_enter ∈ gW := gW_3 (List.mem_of_getElem? (i := 149) rfl) rfl
theorem wk_L_12 : Cond.methodLink RL 12 yX8_init ∈ gW := gW_3 (List.mem_of_getElem? (i := 155) rfl) rfl
theorem wk_X8_1 : Cond.methodLink RX8 1 ⟨"java/lang/Object", "<init>", "()V"⟩ ∈ gW := gW_3 (List.mem_of_getElem? (i := 158) rfl) rfl
theorem wk_L_101 : Cond.methodLink RL 101 yX8_undo ∈ gW := gW_3 (List.mem_of_getElem? (i := 196) rfl) rfl
theorem wk_L_17 : Cond.methodLink RL 17 yX8_addMember ∈ gW := gW_3 (List.mem_of_getElem? (i := 200) rfl) rfl
theorem wk_X8_23 : Cond.methodLink RX8 23 yX8_in ∈ gW := gW_3 (List.mem_of_getElem? (i := 204) rfl) rfl
theorem wk_X8_31 : Cond.methodLink RX8 31 yX8_records ∈ gW := gW_3 (List.mem_of_getElem? (i := 207) rfl) rfl
theorem wk_X8_27 : Cond.methodLink RX8 27 yX8_memberAt ∈ gW := gW_3 (List.mem_of_getElem? (i := 211) rfl) rfl
theorem wk_L_22 : Cond.methodLink RL 22 yX8_addClause ∈ gW := gW_3 (List.mem_of_getElem? (i := 214) rfl) rfl
theorem wk_X8_37 : Cond.methodLink RX8 37 yX8_isValue ∈ gW := gW_3 (List.mem_of_getElem? (i := 218) rfl) rfl
theorem wk_X8_41 : Cond.methodLink RX8 41 yX8_indexOf ∈ gW := gW_3 (List.mem_of_getElem? (i := 221) rfl) rfl
theorem wk_X8_34 : Cond.methodLink RX8 34 yX8_clauseAt ∈ gW := gW_3 (List.mem_of_getElem? (i := 225) rfl) rfl
theorem wk_L_26 : Cond.methodLink RL 26 yX8_set ∈ gW := gW_3 (List.mem_of_getElem? (i := 228) rfl) rfl
theorem wk_X8_44 : Cond.methodLink RX8 44 yX8_isSetting ∈ gW := gW_3 (List.mem_of_getElem? (i := 232) rfl) rfl
theorem wk_L_30 : Cond.methodLink RL 30 yX8_member ∈ gW := gW_3 (List.mem_of_getElem? (i := 235) rfl) rfl
theorem wk_X8_51 : Cond.methodLink RX8 51 yX8_isMember ∈ gW := gW_3 (List.mem_of_getElem? (i := 239) rfl) rfl
theorem wk_X8_54 : Cond.methodLink RX8 54 yX8_isLapsed ∈ gW := gW_4 (List.mem_of_getElem? (i := 3) rfl) rfl
theorem wk_X8_57 : Cond.methodLink RX8 57 yX8_commentsOf ∈ gW := gW_4 (List.mem_of_getElem? (i := 7) rfl) rfl
theorem wk_X8_48 : Cond.methodLink RX8 48 yX8_commentAt ∈ gW := gW_4 (List.mem_of_getElem? (i := 11) rfl) rfl
theorem wk_L_34 : Cond.methodLink RL 34 yX8_value ∈ gW := gW_4 (List.mem_of_getElem? (i := 14) rfl) rfl
theorem wk_L_38 : Cond.methodLink RL 38 yX8_valueIn ∈ gW := gW_4 (List.mem_of_getElem? (i := 18) rfl) rfl
theorem wk_X8_60 : Cond.methodLink RX8 60 yX8_isEdition ∈ gW := gW_4 (List.mem_of_getElem? (i := 22) rfl) rfl
theorem wk_L_42 : Cond.methodLink RL 42 yX8_clause ∈ gW := gW_4 (List.mem_of_getElem? (i := 26) rfl) rfl
theorem wk_L_46 : Cond.methodLink RL 46 yX8_count ∈ gW := gW_4 (List.mem_of_getElem? (i := 30) rfl) rfl
theorem wk_X8_63 : Cond.methodLink RX8 63 yX8_pending ∈ gW := gW_4 (List.mem_of_getElem? (i := 34) rfl) rfl
theorem wk_X8_67 : Cond.methodLink RX8 67 yX8_activeWeight ∈ gW := gW_4 (List.mem_of_getElem? (i := 38) rfl) rfl
theorem wk_L_51 : Cond.methodLink RL 51 yX8_open ∈ gW := gW_4 (List.mem_of_getElem? (i := 42) rfl) rfl
theorem wk_L_55 : Cond.methodLink RL 55 yX8_vote ∈ gW := gW_4 (List.mem_of_getElem? (i := 46) rfl) rfl
theorem wk_L_59 : Cond.methodLink RL 59 yX8_pass ∈ gW := gW_4 (List.mem_of_getElem? (i := 50) rfl) rfl
theorem wk_X8_83 : Cond.methodLink RX8 83 yX8_ends ∈ gW := gW_4 (List.mem_of_getElem? (i := 54) rfl) rfl
theorem wk_X8_80 : Cond.methodLink RX8 80 yX8_tallies ∈ gW := gW_4 (List.mem_of_getElem? (i := 58) rfl) rfl
theorem wk_X8_73 : Cond.methodLink RX8 73 yX8_isTechnical ∈ gW := gW_4 (List.mem_of_getElem? (i := 62) rfl) rfl
theorem wk_X8_76 : Cond.methodLink RX8 76 yX8_carries ∈ gW := gW_4 (List.mem_of_getElem? (i := 66) rfl) rfl
theorem wk_L_63 : Cond.methodLink RL 63 yX8_tally ∈ gW := gW_4 (List.mem_of_getElem? (i := 70) rfl) rfl
theorem wk_L_67 : Cond.methodLink RL 67 yX8_lacking ∈ gW := gW_4 (List.mem_of_getElem? (i := 74) rfl) rfl
theorem wk_L_72 : Cond.methodLink RL 72 yX8_comment ∈ gW := gW_4 (List.mem_of_getElem? (i := 78) rfl) rfl
theorem wk_X8_87 : Cond.methodLink RX8 87 yX8_comes ∈ gW := gW_4 (List.mem_of_getElem? (i := 82) rfl) rfl
theorem wk_L_76 : Cond.methodLink RL 76 yX8_told ∈ gW := gW_4 (List.mem_of_getElem? (i := 86) rfl) rfl
theorem wk_X8_91 : Cond.methodLink RX8 91 yX8_isComment ∈ gW := gW_4 (List.mem_of_getElem? (i := 90) rfl) rfl
theorem wk_L_80 : Cond.methodLink RL 80 yX8_next ∈ gW := gW_4 (List.mem_of_getElem? (i := 94) rfl) rfl
theorem wk_X8_94 : Cond.methodLink RX8 94 yX8_isAhead ∈ gW := gW_4 (List.mem_of_getElem? (i := 98) rfl) rfl
theorem wk_L_84 : Cond.methodLink RL 84 yX8_resolve ∈ gW := gW_4 (List.mem_of_getElem? (i := 102) rfl) rfl
theorem wk_X8_101 : Cond.methodLink RX8 101 yX8_next ∈ gW := gW_4 (List.mem_of_getElem? (i := 106) rfl) rfl
theorem wk_X8_104 : Cond.methodLink RX8 104 yX8_canGet ∈ gW := gW_4 (List.mem_of_getElem? (i := 107) rfl) rfl
theorem wk_X8_107 : Cond.methodLink RX8 107 yX8_comesEdition ∈ gW := gW_4 (List.mem_of_getElem? (i := 111) rfl) rfl
theorem wk_X8_97 : Cond.methodLink RX8 97 yX8_giver ∈ gW := gW_4 (List.mem_of_getElem? (i := 115) rfl) rfl
theorem wk_L_89 : Cond.methodLink RL 89 yX8_appeal ∈ gW := gW_4 (List.mem_of_getElem? (i := 119) rfl) rfl
theorem wk_X8_110 : Cond.methodLink RX8 110 yX8_reopens ∈ gW := gW_4 (List.mem_of_getElem? (i := 123) rfl) rfl
theorem wk_L_93 : Cond.methodLink RL 93 yX8_changes ∈ gW := gW_4 (List.mem_of_getElem? (i := 127) rfl) rfl
theorem wk_X8_114 : Cond.methodLink RX8 114 yX8_isChanged ∈ gW := gW_4 (List.mem_of_getElem? (i := 131) rfl) rfl
theorem wk_L_97 : Cond.methodLink RL 97 yX8_change ∈ gW := gW_4 (List.mem_of_getElem? (i := 135) rfl) rfl
theorem wk_L_105 : Cond.methodLink RL 105 yX8_type ∈ gW := gW_4 (List.mem_of_getElem? (i := 139) rfl) rfl
theorem wk_L_109 : Cond.methodLink RL 109 yX8_clearText ∈ gW := gW_4 (List.mem_of_getElem? (i := 143) rfl) rfl
theorem wk_L_113 : Cond.methodLink RL 113 yX8_fault ∈ gW := gW_4 (List.mem_of_getElem? (i := 147) rfl) rfl
theorem wk_X8_150 : Cond.methodLink RX8 150 yX8_hasFault ∈ gW := gW_4 (List.mem_of_getElem? (i := 151) rfl) rfl
theorem wk_X8_141 : Cond.methodLink RX8 141 yX8_readsComment ∈ gW := gW_4 (List.mem_of_getElem? (i := 155) rfl) rfl
theorem wk_X8_123 : Cond.methodLink RX8 123 yX8_readNumber ∈ gW := gW_4 (List.mem_of_getElem? (i := 159) rfl) rfl
theorem wk_X8_120 : Cond.methodLink RX8 120 yX8_here ∈ gW := gW_4 (List.mem_of_getElem? (i := 163) rfl) rfl
theorem wk_X8_132 : Cond.methodLink RX8 132 yX8_takes ∈ gW := gW_4 (List.mem_of_getElem? (i := 167) rfl) rfl
theorem wk_L_117 : Cond.methodLink RL 117 yX8_enter ∈ gW := gW_4 (List.mem_of_getElem? (i := 171) rfl) rfl
theorem wn_L_7 : Cond.classLink RL 7 "CommitteeBallots" ∈ gW := gW_1 (List.mem_of_getElem? (i := 13) rfl) rfl
theorem wn_X7_7 : Cond.classLink RX7 7 "CommitteeBallots$State" ∈ gW := gW_1 (List.mem_of_getElem? (i := 21) rfl) rfl
theorem wn_X5_9 : Cond.classLink RX5 9 "CommitteeBallots$Members" ∈ gW := gW_1 (List.mem_of_getElem? (i := 27) rfl) rfl
theorem wn_X5_18 : Cond.classLink RX5 18 "CommitteeBallots$Document" ∈ gW := gW_1 (List.mem_of_getElem? (i := 60) rfl) rfl
theorem wn_X5_25 : Cond.classLink RX5 25 "CommitteeBallots$Ballot" ∈ gW := gW_1 (List.mem_of_getElem? (i := 105) rfl) rfl
theorem wn_X5_32 : Cond.classLink RX5 32 "CommitteeBallots$Comments" ∈ gW := gW_1 (List.mem_of_getElem? (i := 136) rfl) rfl
theorem wn_X5_44 : Cond.classLink RX5 44 "[I" ∈ gW := gW_1 (List.mem_of_getElem? (i := 193) rfl) rfl
theorem wn_X7_16 : Cond.classLink RX7 16 "CommitteeBallots$History" ∈ gW := gW_1 (List.mem_of_getElem? (i := 219) rfl) rfl
theorem wn_X3_9 : Cond.classLink RX3 9 "CommitteeBallots$State" ∈ gW := gW_1 (List.mem_of_getElem? (i := 225) rfl) rfl
theorem wn_X7_23 : Cond.classLink RX7 23 "CommitteeBallots$Text" ∈ gW := gW_1 (List.mem_of_getElem? (i := 239) rfl) rfl
theorem wn_L_10 : Cond.classLink RL 10 "CommitteeBallotsModel" ∈ gW := gW_3 (List.mem_of_getElem? (i := 153) rfl) rfl
theorem wt_X7 : Cond.instantiable RX7 3 ∈ gW := gW_1 (List.mem_of_getElem? (i := 14) rfl) rfl
theorem wt_X5 : Cond.instantiable RX5 6 ∈ gW := gW_1 (List.mem_of_getElem? (i := 22) rfl) rfl
theorem wt_X4 : Cond.instantiable RX4 5 ∈ gW := gW_1 (List.mem_of_getElem? (i := 28) rfl) rfl
theorem wt_X2 : Cond.instantiable RX2 8 ∈ gW := gW_1 (List.mem_of_getElem? (i := 61) rfl) rfl
theorem wt_X0 : Cond.instantiable RX0 5 ∈ gW := gW_1 (List.mem_of_getElem? (i := 106) rfl) rfl
theorem wt_X1 : Cond.instantiable RX1 10 ∈ gW := gW_1 (List.mem_of_getElem? (i := 137) rfl) rfl
theorem wt_X3 : Cond.instantiable RX3 3 ∈ gW := gW_1 (List.mem_of_getElem? (i := 220) rfl) rfl
theorem wt_X6 : Cond.instantiable RX6 7 ∈ gW := gW_2 (List.mem_of_getElem? (i := 0) rfl) rfl
theorem wt_X8 : Cond.instantiable RX8 12 ∈ gW := gW_3 (List.mem_of_getElem? (i := 154) rfl) rfl
theorem wu_X0 : ∀ w ∈ u_ws RX0 TX0 5, w ∈ gW := by
  show ∀ w ∈ [u_lay RX0 TX0 0, u_lay RX0 TX0 1, u_lay RX0 TX0 2, u_lay RX0 TX0 3, u_lay RX0 TX0 4], w ∈ gW
  exact List.forall_mem_cons.mpr ⟨(gW_1 (List.mem_of_getElem? (i := 125) rfl) rfl : Cond.laysFinal RX0 "CommitteeBallots$Ballot" "sums" "[I" ∈ gW), List.forall_mem_cons.mpr ⟨(gW_1 (List.mem_of_getElem? (i := 127) rfl) rfl : Cond.lays RX0 "CommitteeBallots$Ballot" "isOpen" "Z" ∈ gW), List.forall_mem_cons.mpr ⟨(gW_1 (List.mem_of_getElem? (i := 129) rfl) rfl : Cond.lays RX0 "CommitteeBallots$Ballot" "broughtEdition" "Z" ∈ gW), List.forall_mem_cons.mpr ⟨(gW_1 (List.mem_of_getElem? (i := 131) rfl) rfl : Cond.lays RX0 "CommitteeBallots$Ballot" "number" "I" ∈ gW), List.forall_mem_cons.mpr ⟨(gW_1 (List.mem_of_getElem? (i := 133) rfl) rfl : Cond.lays RX0 "CommitteeBallots$Ballot" "lastDay" "I" ∈ gW), fun _ h => absurd h List.not_mem_nil⟩⟩⟩⟩⟩
theorem wu_X1 : ∀ w ∈ u_ws RX1 TX1 10, w ∈ gW := by
  show ∀ w ∈ [u_lay RX1 TX1 0, u_lay RX1 TX1 1, u_lay RX1 TX1 2, u_lay RX1 TX1 3, u_lay RX1 TX1 4, u_lay RX1 TX1 5, u_lay RX1 TX1 6, u_lay RX1 TX1 7, u_lay RX1 TX1 8, u_lay RX1 TX1 9], w ∈ gW
  exact List.forall_mem_cons.mpr ⟨(gW_1 (List.mem_of_getElem? (i := 164) rfl) rfl : Cond.laysFinal RX1 "CommitteeBallots$Comments" "member" "[I" ∈ gW), List.forall_mem_cons.mpr ⟨(gW_1 (List.mem_of_getElem? (i := 166) rfl) rfl : Cond.laysFinal RX1 "CommitteeBallots$Comments" "place" "[I" ∈ gW), List.forall_mem_cons.mpr ⟨(gW_1 (List.mem_of_getElem? (i := 168) rfl) rfl : Cond.laysFinal RX1 "CommitteeBallots$Comments" "kind" "[I" ∈ gW), List.forall_mem_cons.mpr ⟨(gW_1 (List.mem_of_getElem? (i := 170) rfl) rfl : Cond.laysFinal RX1 "CommitteeBallots$Comments" "proposed" "[I" ∈ gW), List.forall_mem_cons.mpr ⟨(gW_1 (List.mem_of_getElem? (i := 172) rfl) rfl : Cond.laysFinal RX1 "CommitteeBallots$Comments" "standing" "[I" ∈ gW), List.forall_mem_cons.mpr ⟨(gW_1 (List.mem_of_getElem? (i := 174) rfl) rfl : Cond.laysFinal RX1 "CommitteeBallots$Comments" "day" "[I" ∈ gW), List.forall_mem_cons.mpr ⟨(gW_1 (List.mem_of_getElem? (i := 176) rfl) rfl : Cond.laysFinal RX1 "CommitteeBallots$Comments" "gave" "[I" ∈ gW), List.forall_mem_cons.mpr ⟨(gW_1 (List.mem_of_getElem? (i := 178) rfl) rfl : Cond.laysFinal RX1 "CommitteeBallots$Comments" "turn" "[I" ∈ gW), List.forall_mem_cons.mpr ⟨(gW_1 (List.mem_of_getElem? (i := 180) rfl) rfl : Cond.lays RX1 "CommitteeBallots$Comments" "size" "I" ∈ gW), List.forall_mem_cons.mpr ⟨(gW_1 (List.mem_of_getElem? (i := 182) rfl) rfl : Cond.lays RX1 "CommitteeBallots$Comments" "turns" "I" ∈ gW), fun _ h => absurd h List.not_mem_nil⟩⟩⟩⟩⟩⟩⟩⟩⟩⟩
theorem wu_X2 : ∀ w ∈ u_ws RX2 TX2 8, w ∈ gW := by
  show ∀ w ∈ [u_lay RX2 TX2 0, u_lay RX2 TX2 1, u_lay RX2 TX2 2, u_lay RX2 TX2 3, u_lay RX2 TX2 4, u_lay RX2 TX2 5, u_lay RX2 TX2 6, u_lay RX2 TX2 7], w ∈ gW
  exact List.forall_mem_cons.mpr ⟨(gW_1 (List.mem_of_getElem? (i := 88) rfl) rfl : Cond.laysFinal RX2 "CommitteeBallots$Document" "number" "[I" ∈ gW), List.forall_mem_cons.mpr ⟨(gW_1 (List.mem_of_getElem? (i := 90) rfl) rfl : Cond.laysFinal RX2 "CommitteeBallots$Document" "present" "[I" ∈ gW), List.forall_mem_cons.mpr ⟨(gW_1 (List.mem_of_getElem? (i := 92) rfl) rfl : Cond.laysFinal RX2 "CommitteeBallots$Document" "atOpening" "[I" ∈ gW), List.forall_mem_cons.mpr ⟨(gW_1 (List.mem_of_getElem? (i := 94) rfl) rfl : Cond.laysFinal RX2 "CommitteeBallots$Document" "ballotBehind" "[I" ∈ gW), List.forall_mem_cons.mpr ⟨(gW_1 (List.mem_of_getElem? (i := 96) rfl) rfl : Cond.laysFinal RX2 "CommitteeBallots$Document" "inEdition" "[I" ∈ gW), List.forall_mem_cons.mpr ⟨(gW_1 (List.mem_of_getElem? (i := 98) rfl) rfl : Cond.laysFinal RX2 "CommitteeBallots$Document" "commentBehind" "[I" ∈ gW), List.forall_mem_cons.mpr ⟨(gW_1 (List.mem_of_getElem? (i := 100) rfl) rfl : Cond.lays RX2 "CommitteeBallots$Document" "size" "I" ∈ gW), List.forall_mem_cons.mpr ⟨(gW_1 (List.mem_of_getElem? (i := 102) rfl) rfl : Cond.lays RX2 "CommitteeBallots$Document" "edition" "I" ∈ gW), fun _ h => absurd h List.not_mem_nil⟩⟩⟩⟩⟩⟩⟩⟩
theorem wu_X3 : ∀ w ∈ u_ws RX3 TX3 3, w ∈ gW := by
  show ∀ w ∈ [u_lay RX3 TX3 0, u_lay RX3 TX3 1, u_lay RX3 TX3 2], w ∈ gW
  exact List.forall_mem_cons.mpr ⟨(gW_1 (List.mem_of_getElem? (i := 232) rfl) rfl : Cond.laysFinal RX3 "CommitteeBallots$History" "states" "[LCommitteeBallots$State;" ∈ gW), List.forall_mem_cons.mpr ⟨(gW_1 (List.mem_of_getElem? (i := 234) rfl) rfl : Cond.lays RX3 "CommitteeBallots$History" "oldest" "I" ∈ gW), List.forall_mem_cons.mpr ⟨(gW_1 (List.mem_of_getElem? (i := 236) rfl) rfl : Cond.lays RX3 "CommitteeBallots$History" "size" "I" ∈ gW), fun _ h => absurd h List.not_mem_nil⟩⟩⟩
theorem wu_X4 : ∀ w ∈ u_ws RX4 TX4 5, w ∈ gW := by
  show ∀ w ∈ [u_lay RX4 TX4 0, u_lay RX4 TX4 1, u_lay RX4 TX4 2, u_lay RX4 TX4 3, u_lay RX4 TX4 4], w ∈ gW
  exact List.forall_mem_cons.mpr ⟨(gW_1 (List.mem_of_getElem? (i := 48) rfl) rfl : Cond.laysFinal RX4 "CommitteeBallots$Members" "weight" "[I" ∈ gW), List.forall_mem_cons.mpr ⟨(gW_1 (List.mem_of_getElem? (i := 50) rfl) rfl : Cond.laysFinal RX4 "CommitteeBallots$Members" "misses" "[I" ∈ gW), List.forall_mem_cons.mpr ⟨(gW_1 (List.mem_of_getElem? (i := 52) rfl) rfl : Cond.laysFinal RX4 "CommitteeBallots$Members" "given" "[I" ∈ gW), List.forall_mem_cons.mpr ⟨(gW_1 (List.mem_of_getElem? (i := 54) rfl) rfl : Cond.laysFinal RX4 "CommitteeBallots$Members" "ballotsVoted" "[I" ∈ gW), List.forall_mem_cons.mpr ⟨(gW_1 (List.mem_of_getElem? (i := 56) rfl) rfl : Cond.lays RX4 "CommitteeBallots$Members" "size" "I" ∈ gW), fun _ h => absurd h List.not_mem_nil⟩⟩⟩⟩⟩
theorem wu_X5 : ∀ w ∈ u_ws RX5 TX5 6, w ∈ gW := by
  show ∀ w ∈ [u_lay RX5 TX5 0, u_lay RX5 TX5 1, u_lay RX5 TX5 2, u_lay RX5 TX5 3, u_lay RX5 TX5 4, u_lay RX5 TX5 5], w ∈ gW
  exact List.forall_mem_cons.mpr ⟨(gW_1 (List.mem_of_getElem? (i := 206) rfl) rfl : Cond.laysFinal RX5 "CommitteeBallots$State" "members" "LCommitteeBallots$Members;" ∈ gW), List.forall_mem_cons.mpr ⟨(gW_1 (List.mem_of_getElem? (i := 208) rfl) rfl : Cond.laysFinal RX5 "CommitteeBallots$State" "document" "LCommitteeBallots$Document;" ∈ gW), List.forall_mem_cons.mpr ⟨(gW_1 (List.mem_of_getElem? (i := 210) rfl) rfl : Cond.laysFinal RX5 "CommitteeBallots$State" "ballot" "LCommitteeBallots$Ballot;" ∈ gW), List.forall_mem_cons.mpr ⟨(gW_1 (List.mem_of_getElem? (i := 212) rfl) rfl : Cond.laysFinal RX5 "CommitteeBallots$State" "comments" "LCommitteeBallots$Comments;" ∈ gW), List.forall_mem_cons.mpr ⟨(gW_1 (List.mem_of_getElem? (i := 214) rfl) rfl : Cond.laysFinal RX5 "CommitteeBallots$State" "settings" "[I" ∈ gW), List.forall_mem_cons.mpr ⟨(gW_1 (List.mem_of_getElem? (i := 216) rfl) rfl : Cond.lays RX5 "CommitteeBallots$State" "today" "I" ∈ gW), fun _ h => absurd h List.not_mem_nil⟩⟩⟩⟩⟩⟩
theorem wu_X6 : ∀ w ∈ u_ws RX6 TX6 7, w ∈ gW := by
  show ∀ w ∈ [u_lay RX6 TX6 0, u_lay RX6 TX6 1, u_lay RX6 TX6 2, u_lay RX6 TX6 3, u_lay RX6 TX6 4, u_lay RX6 TX6 5, u_lay RX6 TX6 6], w ∈ gW
  exact List.forall_mem_cons.mpr ⟨(gW_2 (List.mem_of_getElem? (i := 17) rfl) rfl : Cond.laysFinal RX6 "CommitteeBallots$Text" "signs" "[C" ∈ gW), List.forall_mem_cons.mpr ⟨(gW_2 (List.mem_of_getElem? (i := 19) rfl) rfl : Cond.lays RX6 "CommitteeBallots$Text" "length" "I" ∈ gW), List.forall_mem_cons.mpr ⟨(gW_2 (List.mem_of_getElem? (i := 21) rfl) rfl : Cond.lays RX6 "CommitteeBallots$Text" "start" "I" ∈ gW), List.forall_mem_cons.mpr ⟨(gW_2 (List.mem_of_getElem? (i := 23) rfl) rfl : Cond.lays RX6 "CommitteeBallots$Text" "end" "I" ∈ gW), List.forall_mem_cons.mpr ⟨(gW_2 (List.mem_of_getElem? (i := 25) rfl) rfl : Cond.lays RX6 "CommitteeBallots$Text" "clause" "I" ∈ gW), List.forall_mem_cons.mpr ⟨(gW_2 (List.mem_of_getElem? (i := 27) rfl) rfl : Cond.lays RX6 "CommitteeBallots$Text" "kind" "I" ∈ gW), List.forall_mem_cons.mpr ⟨(gW_2 (List.mem_of_getElem? (i := 29) rfl) rfl : Cond.lays RX6 "CommitteeBallots$Text" "proposed" "I" ∈ gW), fun _ h => absurd h List.not_mem_nil⟩⟩⟩⟩⟩⟩⟩
theorem wu_X7 : ∀ w ∈ u_ws RX7 TX7 3, w ∈ gW := by
  show ∀ w ∈ [u_lay RX7 TX7 0, u_lay RX7 TX7 1, u_lay RX7 TX7 2], w ∈ gW
  exact List.forall_mem_cons.mpr ⟨(gW_2 (List.mem_of_getElem? (i := 36) rfl) rfl : Cond.laysFinal RX7 "CommitteeBallots" "now" "LCommitteeBallots$State;" ∈ gW), List.forall_mem_cons.mpr ⟨(gW_2 (List.mem_of_getElem? (i := 38) rfl) rfl : Cond.laysFinal RX7 "CommitteeBallots" "history" "LCommitteeBallots$History;" ∈ gW), List.forall_mem_cons.mpr ⟨(gW_2 (List.mem_of_getElem? (i := 40) rfl) rfl : Cond.laysFinal RX7 "CommitteeBallots" "text" "LCommitteeBallots$Text;" ∈ gW), fun _ h => absurd h List.not_mem_nil⟩⟩⟩
theorem wu_X8 : ∀ w ∈ u_ws RX8 TX8 12, w ∈ gW := by
  show ∀ w ∈ [u_lay RX8 TX8 0, u_lay RX8 TX8 1, u_lay RX8 TX8 2, u_lay RX8 TX8 3, u_lay RX8 TX8 4, u_lay RX8 TX8 5, u_lay RX8 TX8 6, u_lay RX8 TX8 7, u_lay RX8 TX8 8, u_lay RX8 TX8 9, u_lay RX8 TX8 10, u_lay RX8 TX8 11], w ∈ gW
  exact List.forall_mem_cons.mpr ⟨(gW_3 (List.mem_of_getElem? (i := 171) rfl) rfl : Cond.laysFinal RX8 "CommitteeBallotsModel" "now" "[I" ∈ gW), List.forall_mem_cons.mpr ⟨(gW_3 (List.mem_of_getElem? (i := 173) rfl) rfl : Cond.laysFinal RX8 "CommitteeBallotsModel" "past" "[I" ∈ gW), List.forall_mem_cons.mpr ⟨(gW_3 (List.mem_of_getElem? (i := 175) rfl) rfl : Cond.lays RX8 "CommitteeBallotsModel" "saved" "I" ∈ gW), List.forall_mem_cons.mpr ⟨(gW_3 (List.mem_of_getElem? (i := 177) rfl) rfl : Cond.laysFinal RX8 "CommitteeBallotsModel" "text" "[I" ∈ gW), List.forall_mem_cons.mpr ⟨(gW_3 (List.mem_of_getElem? (i := 179) rfl) rfl : Cond.lays RX8 "CommitteeBallotsModel" "length" "I" ∈ gW), List.forall_mem_cons.mpr ⟨(gW_3 (List.mem_of_getElem? (i := 181) rfl) rfl : Cond.lays RX8 "CommitteeBallotsModel" "spot" "I" ∈ gW), List.forall_mem_cons.mpr ⟨(gW_3 (List.mem_of_getElem? (i := 183) rfl) rfl : Cond.lays RX8 "CommitteeBallotsModel" "readClause" "I" ∈ gW), List.forall_mem_cons.mpr ⟨(gW_3 (List.mem_of_getElem? (i := 185) rfl) rfl : Cond.lays RX8 "CommitteeBallotsModel" "readKind" "I" ∈ gW), List.forall_mem_cons.mpr ⟨(gW_3 (List.mem_of_getElem? (i := 187) rfl) rfl : Cond.lays RX8 "CommitteeBallotsModel" "readValue" "I" ∈ gW), List.forall_mem_cons.mpr ⟨(gW_3 (List.mem_of_getElem? (i := 189) rfl) rfl : Cond.lays RX8 "CommitteeBallotsModel" "faultAt" "I" ∈ gW), List.forall_mem_cons.mpr ⟨(gW_3 (List.mem_of_getElem? (i := 191) rfl) rfl : Cond.lays RX8 "CommitteeBallotsModel" "faultWhy" "I" ∈ gW), List.forall_mem_cons.mpr ⟨(gW_3 (List.mem_of_getElem? (i := 193) rfl) rfl : Cond.lays RX8 "CommitteeBallotsModel" "readMany" "I" ∈ gW), fun _ h => absurd h List.not_mem_nil⟩⟩⟩⟩⟩⟩⟩⟩⟩⟩⟩⟩
def gNest : List Cond := [.methodLinkNest RX7 9 yX5_init "CommitteeBallots", .methodLinkNest RX5 11 yX4_init "CommitteeBallots", .methodLinkNest RX5 20 yX2_init "CommitteeBallots", .methodLinkNest RX5 27 yX0_init "CommitteeBallots", .methodLinkNest RX5 34 yX1_init "CommitteeBallots", .fieldLinkNest RX5 39 "CommitteeBallots" "FIRST_SETTINGS" "[I" "CommitteeBallots", .methodLinkNest RX3 17 yX5_init "CommitteeBallots", .methodLinkNest RX7 25 yX6_init "CommitteeBallots", .methodLinkNest RX4 24 yX7_copyAll "CommitteeBallots", .methodLinkNest RX2 34 yX7_copyAll "CommitteeBallots", .methodLinkNest RX0 15 yX7_copyAll "CommitteeBallots", .methodLinkNest RX1 36 yX7_copyAll "CommitteeBallots", .methodLinkNest RX5 64 yX7_copyAll "CommitteeBallots"]
end
section
abbrev gM : Type := Nat → Nat → Int32
abbrev gSh : Type := Nat × Nat × List (Option Nat)
abbrev gE : Type := Launch × (Nat → Nat) × va_G × (ClassId × ClassId × ClassId)
def shp : List gSh := [(0, 7, [some 1, some 126, some 128]),
  (0, 5, [some 2, some 7, some 14, some 16, some 25, none]),
  (0, 4, [some 3, some 4, some 5, some 6, none]),
  (1, 10, []),
  (1, 10, []),
  (1, 10, []),
  (1, 10, []),
  (0, 2, [some 8, some 9, some 10, some 11, some 12, some 13, none, none]),
  (1, 20, []),
  (1, 20, []),
  (1, 20, []),
  (1, 12, []),
  (1, 240, []),
  (1, 240, []),
  (0, 0, [some 15, none, none, none, none]),
  (1, 6, []),
  (0, 1, [some 17, some 18, some 19, some 20, some 21, some 22, some 23, some 24, none, none]),
  (1, 30, []),
  (1, 30, []),
  (1, 30, []),
  (1, 30, []),
  (1, 30, []),
  (1, 30, []),
  (1, 30, []),
  (1, 30, []),
  (1, 5, []),
  (0, 5, [some 27, some 32, some 39, some 41, some 50, none]),
  (0, 4, [some 28, some 29, some 30, some 31, none]),
  (1, 10, []),
  (1, 10, []),
  (1, 10, []),
  (1, 10, []),
  (0, 2, [some 33, some 34, some 35, some 36, some 37, some 38, none, none]),
  (1, 20, []),
  (1, 20, []),
  (1, 20, []),
  (1, 12, []),
  (1, 240, []),
  (1, 240, []),
  (0, 0, [some 40, none, none, none, none]),
  (1, 6, []),
  (0, 1, [some 42, some 43, some 44, some 45, some 46, some 47, some 48, some 49, none, none]),
  (1, 30, []),
  (1, 30, []),
  (1, 30, []),
  (1, 30, []),
  (1, 30, []),
  (1, 30, []),
  (1, 30, []),
  (1, 30, []),
  (1, 5, []),
  (0, 5, [some 52, some 57, some 64, some 66, some 75, none]),
  (0, 4, [some 53, some 54, some 55, some 56, none]),
  (1, 10, []),
  (1, 10, []),
  (1, 10, []),
  (1, 10, []),
  (0, 2, [some 58, some 59, some 60, some 61, some 62, some 63, none, none]),
  (1, 20, []),
  (1, 20, []),
  (1, 20, []),
  (1, 12, []),
  (1, 240, []),
  (1, 240, []),
  (0, 0, [some 65, none, none, none, none]),
  (1, 6, []),
  (0, 1, [some 67, some 68, some 69, some 70, some 71, some 72, some 73, some 74, none, none]),
  (1, 30, []),
  (1, 30, []),
  (1, 30, []),
  (1, 30, []),
  (1, 30, []),
  (1, 30, []),
  (1, 30, []),
  (1, 30, []),
  (1, 5, []),
  (0, 5, [some 77, some 82, some 89, some 91, some 100, none]),
  (0, 4, [some 78, some 79, some 80, some 81, none]),
  (1, 10, []),
  (1, 10, []),
  (1, 10, []),
  (1, 10, []),
  (0, 2, [some 83, some 84, some 85, some 86, some 87, some 88, none, none]),
  (1, 20, []),
  (1, 20, []),
  (1, 20, []),
  (1, 12, []),
  (1, 240, []),
  (1, 240, []),
  (0, 0, [some 90, none, none, none, none]),
  (1, 6, []),
  (0, 1, [some 92, some 93, some 94, some 95, some 96, some 97, some 98, some 99, none, none]),
  (1, 30, []),
  (1, 30, []),
  (1, 30, []),
  (1, 30, []),
  (1, 30, []),
  (1, 30, []),
  (1, 30, []),
  (1, 30, []),
  (1, 5, []),
  (0, 5, [some 102, some 107, some 114, some 116, some 125, none]),
  (0, 4, [some 103, some 104, some 105, some 106, none]),
  (1, 10, []),
  (1, 10, []),
  (1, 10, []),
  (1, 10, []),
  (0, 2, [some 108, some 109, some 110, some 111, some 112, some 113, none, none]),
  (1, 20, []),
  (1, 20, []),
  (1, 20, []),
  (1, 12, []),
  (1, 240, []),
  (1, 240, []),
  (0, 0, [some 115, none, none, none, none]),
  (1, 6, []),
  (0, 1, [some 117, some 118, some 119, some 120, some 121, some 122, some 123, some 124, none, none]),
  (1, 30, []),
  (1, 30, []),
  (1, 30, []),
  (1, 30, []),
  (1, 30, []),
  (1, 30, []),
  (1, 30, []),
  (1, 30, []),
  (1, 5, []),
  (0, 3, [some 127, none, none]),
  (3, 4, [some 26, some 51, some 76, some 101]),
  (0, 6, [some 129, none, none, none, none, none, none]),
  (2, 80, []),
  (0, 8, [some 131, some 132, none, some 133, none, none, none, none, none, none, none, none]),
  (1, 1213, []),
  (1, 4852, []),
  (1, 80, [])]
def gset (M : gM) (a : Nat) (r : Nat → Int32) : gM := fun b => if b = a then r else M b
theorem gset_eq (M : gM) (a : Nat) (r : Nat → Int32) : gset M a r a = r := if_pos rfl
theorem gset_ne (M : gM) {a b : Nat} (r : Nat → Int32) (h : b ≠ a) : gset M a r b = M b := if_neg h
def gfs (ρ : Nat → Nat) (r : Nat → Int32) : Nat → List (Option Nat) → List Value
  | _, [] => []
  | k, some b :: l => .ref (ρ b) :: gfs ρ r (k + 1) l
  | k, none :: l => .int (r k) :: gfs ρ r (k + 1) l
def gfv (ρ : Nat → Nat) (r : Nat → Int32) (k : Nat) (o : Option Nat) : Value := match o with
  | some b => .ref (ρ b)
  | none => .int (r k)
theorem gfs_get (ρ : Nat → Nat) (r : Nat → Int32) : ∀ (l : List (Option Nat)) (j k : Nat), (gfs ρ r j l)[k]? = (l[k]?).map (gfv ρ r (j + k)) := by
  intro l
  induction l with
  | nil => intro j k; simp [gfs]
  | cons o l ih =>
    intro j k
    cases k with
    | zero => cases o <;> simp [gfs, gfv]
    | succ k =>
      have e : j + 1 + k = j + (k + 1) := by omega
      cases o <;> simp [gfs, ih, e]
theorem gfs_len (ρ : Nat → Nat) (r : Nat → Int32) : ∀ (l : List (Option Nat)) (j : Nat), (gfs ρ r j l).length = l.length := by
  intro l
  induction l with
  | nil => intro j; simp [gfs]
  | cons o l ih => intro j; cases o <;> simp [gfs, ih]
theorem gfs_set (ρ : Nat → Nat) (r : Nat → Int32) (l : List (Option Nat)) (k : Nat) (v : Int32) (h : l[k]? = some none) : (gfs ρ r 0 l).set k (.int v) = gfs ρ (upd r k v) 0 l := by
  apply List.ext_getElem?
  intro i
  by_cases hi : i = k
  · subst hi
    have hl : i < (gfs ρ r 0 l).length := by rw [gfs_len]; exact (List.getElem?_eq_some_iff.mp h).1
    rw [List.getElem?_set_self hl, gfs_get, h]
    simp [gfv, upd]
  · rw [List.getElem?_set_ne (Ne.symm hi), gfs_get, gfs_get]
    cases l[i]? with
    | none => rfl
    | some o => cases o <;> simp [gfv, upd, hi]
def gcell (E : gE) (r : Nat → Int32) (q : gSh) : va_E := match q.1 with
  | 0 => .inr (q.2.1, gfs E.2.1 r 0 q.2.2)
  | 1 => .inl (E.2.2.2.1, q.2.1, .inl r)
  | 2 => .inl (E.2.2.2.2.1, q.2.1, .inl r)
  | _ => .inl (E.2.2.2.2.2, q.2.1, .inr (.inr (.inr (.inr (fun k => (q.2.2.getD k none).map E.2.1)))))
def gws (E : gE) (M : gM) : va_W := shp.mapIdx (fun a q => (E.2.1 a, gcell E (M a) q))
theorem gws_get {E : gE} {M : gM} {a : Nat} {q : gSh} (h : shp[a]? = some q) : (gws E M)[a]? = some (E.2.1 a, gcell E (M a) q) := by
  simp [gws, List.getElem?_mapIdx, h]
theorem gws_inv {E : gE} {M : gM} {k : Nat} {q : Nat × va_E} (h : (gws E M)[k]? = some q) : ∃ sh : gSh, shp[k]? = some sh ∧ q = (E.2.1 k, gcell E (M k) sh) := by
  simp only [gws, List.getElem?_mapIdx, Option.map_eq_some_iff] at h
  obtain ⟨sh, h1, h2⟩ := h
  exact ⟨sh, h1, h2.symm⟩
theorem gws_set {E : gE} {M : gM} {a : Nat} {q : gSh} {r : Nat → Int32} (h : shp[a]? = some q) : (gws E M).set a (E.2.1 a, gcell E r q) = gws E (gset M a r) := by
  apply List.ext_getElem?
  intro i
  by_cases hi : i = a
  · subst hi
    have hl : i < (gws E M).length := (List.getElem?_eq_some_iff.mp (gws_get (E := E) (M := M) h)).1
    rw [List.getElem?_set_self hl, gws_get h, gset_eq]
  · rw [List.getElem?_set_ne (Ne.symm hi)]
    simp only [gws, List.getElem?_mapIdx, gset_ne M r hi]
def gA (E : gE) : Nat → Prop := fun q => ∃ a, a < 134 ∧ q = E.2.1 a
def gtys (E : gE) : List (ClassId × FieldType) := [(E.2.2.2.1, .int), (E.2.2.2.2.1, .char), (E.2.2.2.2.2, .object RX5)]
def gLe (j : Nat) : Int32 := match j with
  | 0 => 1
  | 1 => 1
  | 2 => 1
  | 3 => 0
  | _ => 1
def gGr (j : Nat) : Int32 := match j with
  | 0 => 100
  | 1 => 100
  | 2 => 60
  | 3 => 60
  | _ => 5
def gEnv (E : gE) (A : Nat → Prop) (U : State) : Prop :=
  va_K E.2.2.1 vwCl (gtys E) U ∧ va_Z RX7 "LEAST_SETTINGS" "[I" (.ref (E.2.1 134)) A U U.heap ∧ va_T .int (E.2.1 134) 5 (fun j => .int (gLe j)) A U U.heap ∧
  va_Z RX7 "GREATEST_SETTINGS" "[I" (.ref (E.2.1 135)) A U U.heap ∧ va_T .int (E.2.1 135) 5 (fun j => .int (gGr j)) A U U.heap ∧ (∀ w ∈ gNest, va_Nw w U) ∧
  (∀ a b, a < 134 → b < 134 → E.2.1 a = E.2.1 b → a = b) ∧ (∀ a, a < 134 → A (E.2.1 a))
theorem gEnv.D {E : gE} {A : Nat → Prop} {U : State} {M : gM} (h : gEnv E A U) : va_D A (gws E M) := by
  obtain ⟨-, -, -, -, -, -, hi, ha⟩ := h
  have hlt : ∀ {k : Nat} {sh : gSh}, shp[k]? = some sh → k < 134 := fun hk => (List.getElem?_eq_some_iff.mp hk).1
  refine ⟨fun i j x y hx hy e => ?_, fun k q hk => ?_⟩
  · obtain ⟨s1, h1, rfl⟩ := gws_inv hx
    obtain ⟨s2, h2, rfl⟩ := gws_inv hy
    exact hi i j (hlt h1) (hlt h2) e
  · obtain ⟨s1, h1, rfl⟩ := gws_inv hk
    exact ha k (hlt h1)
theorem gNest_warm {s U : State} (hW : s.WarmedH U.vm) (h : ∀ w ∈ gNest, va_Nw w s) : ∀ w ∈ gNest, va_Nw w U := by
  intro w hw
  have h1 := h w hw
  simp only [gNest, List.mem_cons, List.not_mem_nil, or_false] at hw
  rcases hw with rfl | rfl | rfl | rfl | rfl | rfl | rfl | rfl | rfl | rfl | rfl | rfl | rfl <;> first | exact va_Nw.warmM hW h1 | exact va_Nw.warmF hW h1
theorem gNest_same {s U : State} (hv : s.vm = U.vm) (h : ∀ w ∈ gNest, va_Nw w s) : ∀ w ∈ gNest, va_Nw w U := by
  intro w hw
  have h1 := h w hw
  simp only [gNest, List.mem_cons, List.not_mem_nil, or_false] at hw
  rcases hw with rfl | rfl | rfl | rfl | rfl | rfl | rfl | rfl | rfl | rfl | rfl | rfl | rfl <;> exact va_Nw.same rfl hv h1
/-- the surroundings of a callee, out of its caller's -/
theorem gEnv.call {E : gE} {A : Nat → Prop} {s U : State} {locs : List Loc} (h : gEnv E A s) (hS : va_S A s.heap U.heap locs) (hW : s.WarmedH U.vm) : gEnv E (gA E) U := by
  obtain ⟨h1, h2, h3, h4, h5, h6, h7, h8⟩ := h
  have hA : ∀ q, gA E q → A q := fun q ⟨a, ha, e⟩ => e ▸ h8 a ha
  exact ⟨va_K.moved hW.alike h1, ((h2.kept hS.2.1).moved hW.alike).narrow hA, ((h3.kept hS.2.1).moved hW.alike).narrow hA, ((h4.kept hS.2.1).moved hW.alike).narrow hA, ((h5.kept hS.2.1).moved hW.alike).narrow hA, gNest_warm hW h6, h7, fun a ha => ⟨a, ha, rfl⟩⟩
theorem gEnv.blind {E : gE} {A : Nat → Prop} {U : State} (a : Array Value) (g : JFrame) (mk : MethodId) (h : gEnv E A U) : gEnv E A (U.calling g mk a) := by
  obtain ⟨h1, h2, h3, h4, h5, h6, h7, h8⟩ := h
  have hv : U.vm.Alike (U.calling g mk a).vm := Vm.Alike.refl U.vm
  exact ⟨va_K.moved hv h1, h2.moved hv, h3.moved hv, h4.moved hv, h5.moved hv, gNest_same (s := U) (U := U.calling g mk a) rfl h6, h7, h8⟩
def gtr (ρ : Nat → Nat) (v : Value) : Value := match v with
  | .ref a => .ref (ρ a)
  | v => v
abbrev gLs : Type := List (Option Value)
def gL (ρ : Nat → Nat) (lsr : Array Slot) (ls : gLs) : Prop := lsr.size = ls.length ∧ lv_wf lsr ∧ ∀ (i : Nat) (v : Value), ls[i]? = some (some v) → v.category = 1 ∧ lsr[i]? = some (.val (gtr ρ v))
def gassoc (ρ : Nat → Nat) (ls : gLs) : List (Nat × Value) := (List.range ls.length).filterMap (fun j => match ls[j]? with
  | some (some v) => some (j, gtr ρ v)
  | _ => none)
theorem gtr_cat (ρ : Nat → Nat) (v : Value) : (gtr ρ v).category = v.category := by cases v <;> rfl
theorem gL.has {ρ : Nat → Nat} {lsr : Array Slot} {ls : gLs} (h : gL ρ lsr ls) : lv_has lsr ls.length (gassoc ρ ls) := by
  refine ⟨h.1, h.2.1, fun q hq => ?_⟩
  obtain ⟨j, -, hj⟩ := List.mem_filterMap.mp hq
  split at hj
  · next v hv => cases hj; exact (h.2.2 j v hv).2
  · cases hj
theorem gL.set {ρ : Nat → Nat} {lsr lsr' : Array Slot} {ls : gLs} {i : Nat} {v : Value} (h : gL ρ lsr ls) (hi : i < ls.length) (hc : v.category = 1) (h' : lv_has lsr' ls.length ((i, gtr ρ v) :: (gassoc ρ ls).filter (fun q => !(q.1 == i) && !(q.1 + 1 == i && q.2.category == 2)))) : gL ρ lsr' (ls.set i (some v)) := by
  refine ⟨by rw [List.length_set]; exact h'.1, h'.2.1, fun j w hj => ?_⟩
  by_cases e : j = i
  · subst e
    rw [List.getElem?_set_self hi] at hj
    cases hj
    exact ⟨hc, h'.2.2 _ List.mem_cons_self⟩
  · rw [List.getElem?_set_ne (Ne.symm e)] at hj
    have hw := (h.2.2 j w hj).1
    refine ⟨hw, h'.2.2 (j, gtr ρ w) (List.mem_cons_of_mem _ (List.mem_filter.mpr ⟨List.mem_filterMap.mpr ⟨j, List.mem_range.mpr (List.getElem?_eq_some_iff.mp hj).1, by simp [hj]⟩, ?_⟩))⟩
    simp [e, gtr_cat, hw]
abbrev gX : Type := Program × Env × Room × State × MethodId × Array Value × List Frame × Method × Code × Nat × Nat × (Nat → Prop)
def gG (X : gX) (E : gE) (M : gM) (pc : Nat) (ls : gLs) (st : List Value) (Q : State → Prop) : Prop := match X with
  | (p, e, R, s, m, args, below, meth, c, cells, slots, A) => ∀ (H : Heap) (locs : List Loc) (lsr : Array Slot), va_P E.2.2.1 vwCl (gws E M) H → va_S A s.heap H locs → gL E.2.1 lsr ls → W p E.1 e R s m args below meth c H locs cells slots Q (F0 m pc lsr (st.map (gtr E.2.1)))
def gOk (X : gX) (E : gE) (cc : ByteArray) (own : String) (nL f lo : Nat) : Prop := match X with
  | (p, e, R, s, m, args, below, meth, c, cells, slots, A) => CallFix p m c cc nL s args gW own ∧ meth.locks = false ∧ (R.frames = f ∧ R.locals = lo ∧ cells ≤ R.cells ∧ slots ≤ R.slots) ∧ gEnv E A s
abbrev gK : Type := MethodName × ByteArray × Nat × Option FieldType × Nat × Nat
def gPost (E : gE) (post : Option Int32 → gM → Prop) : Array Value → State → Outcome → State → Prop := fun _ st oc t =>
  (∃ (r : Option Int32) (M' : gM), oc = .returned (r.map Value.int) ∧ post r M' ∧ va_P E.2.2.1 vwCl (gws E M') t.heap) ∧ va_F (gA E) st t
def gPre (E : gE) (as : List Value) (M : gM) : Array Value → State → Prop := va_Pc (as.map (gtr E.2.1)) (fun U => va_P E.2.2.1 vwCl (gws E M) U.heap ∧ gEnv E (gA E) U)
/-- a method's contract over the made objects -/
def gMet (E : gE) (k : gK) (as : List Value) (M : gM) (post : Option Int32 → gM → Prop) : Prop :=
  Met E.1 k.1 (gC k.1 k.2.1 k.2.2.1 k.2.2.2.1) { frames := k.2.2.2.2.1, cells := 0, slots := 0, locals := k.2.2.2.2.2 } (gPre E as M) (gPost E post) 0 0 (gA E)
def gQ (X : gX) (E : gE) (post : Option Int32 → gM → Prop) : State → Prop := match X with
  | (_, _, _, s, _, args, below, _, _, _, _, _) => MQ below (gPost E post) args s 0 0 (gA E)
def gRt (X : gX) (E : gE) (ret : Option FieldType) : Prop := match X with
  | (_, _, _, _, _, _, _, meth, _, cells, slots, A) => meth.sig.returnType = ret ∧ cells = 0 ∧ slots = 0 ∧ A = gA E
def gInt (P : Int32 → gM → Prop) : Option Int32 → gM → Prop := fun r M => ∃ x, r = some x ∧ P x M
def gVoid (P : gM → Prop) : Option Int32 → gM → Prop := fun r M => r = none ∧ P M
def gEntry (as : List Value) (n : Nat) : gLs := as.map some ++ List.replicate (n - as.length) none
theorem gMet.of {E : gE} {k : gK} {as : List Value} {M : gM} {post : Option Int32 → gM → Prop} (hy : plainName k.1.cls = true) (hc : as.all (fun v => v.category == 1) = true) (hn : as.length ≤ k.2.2.1)
    (body : ∀ X : gX, gOk X E k.2.1 k.1.cls k.2.2.1 k.2.2.2.2.1 k.2.2.2.2.2 → gRt X E k.2.2.2.1 → gG X E M 0 (gEntry as k.2.2.1) [] (gQ X E post)) : gMet E k as M post := by
  obtain ⟨y, cc, n, ret, f, lo⟩ := k
  refine Met.ofW (cc := cc) (maxL := n) (ret := ret) hy rfl ?_
  intro p e s m args below meth c s₁ B hml hv
  obtain ⟨rfl, hP, hEnv⟩ := hv
  have hts := atoms_spec (ws := gC y cc n ret) B.pre
  have hcat : ∀ v ∈ as, v.category = 1 := fun v hv => by simpa using List.all_eq_true.mp hc v hv
  have hsl : lg_sl (as.map (gtr E.2.1)) = (as.map (gtr E.2.1)).map Slot.val := by
    clear hP hEnv hts B hml hn hc body
    induction as with
    | nil => rfl
    | cons v as ih =>
      have h1 : (gtr E.2.1 v).category = 1 := by rw [gtr_cat]; exact hcat v List.mem_cons_self
      have h2 := ih (fun w hw => hcat w (List.mem_cons_of_mem _ hw))
      have e : lg_sl ((v :: as).map (gtr E.2.1)) = (if (gtr E.2.1 v).category = 2 then [Slot.val (gtr E.2.1 v), .second] else [.val (gtr E.2.1 v)]) ++ lg_sl (as.map (gtr E.2.1)) := rfl
      rw [e, h1, h2]
      rfl
  have hle : (lg_sl (as.map (gtr E.2.1))).length ≤ n := by rw [hsl]; simpa using hn
  have hent := lv_entry (as.map (gtr E.2.1)) (n := n) hle
  rw [lg_entry_eq]
  have hb := body (p, e, { frames := f, cells := 0, slots := 0, locals := lo }, s, m, _, below, meth, c, 0, 0, gA E) ⟨⟨B.exec, B.bytes, hml, findClass_of_methodNamed B.named, fun w hw => hts w (List.mem_cons_of_mem _ hw)⟩, B.notSynchronized, ⟨rfl, rfl, Nat.zero_le _, Nat.zero_le _⟩, hEnv⟩ ⟨B.returns, rfl, rfl, rfl⟩
  refine hb s.heap [] _ hP va_S.rf ⟨?_, hent.2.1, fun i v hv => ?_⟩
  · rw [hent.1]
    simp only [gEntry, List.length_append, List.length_map, List.length_replicate]
    have : as.length ≤ n := hn
    omega
  · have hi : i < as.length := by
      rcases Nat.lt_or_ge i as.length with h | h
      · exact h
      · exfalso
        simp only [gEntry] at hv
        rw [List.getElem?_append_right (by simpa using h)] at hv
        have h2 := List.mem_of_getElem? hv
        have h3 := (List.mem_replicate.mp h2).2
        cases h3
    simp only [gEntry] at hv
    rw [List.getElem?_append_left (by simpa using hi)] at hv
    have h1 : as[i]? = some v := by simpa using hv
    refine ⟨hcat v (List.mem_of_getElem? h1), ?_⟩
    rw [hsl, List.getElem?_toArray, List.getElem?_append_left (by simpa using hi)]
    simp [h1]
end
section
variable {X : gX} {E : gE} {cc : ByteArray} {own : String} {nL f lo : Nat} {M : gM} {pc n : Nat} {ls : gLs} {st : List Value} {Q : State → Prop}
theorem g_iconst (hX : gOk X E cc own nL f lo) {z : Int} {v : Int32} (hd : decode cc pc = .ok (.iconst z, 1)) (hv : Int32.ofInt z = v) (hn : pc + 1 = n) (kk : gG X E M n ls (.int v :: st) Q) : gG X E M pc ls st Q := by
  obtain ⟨p, e, R, s, m, args, below, meth, c, cells, slots, A⟩ := X
  intro H locs lsr hP hS hL
  subst hn
  exact lv_iconst hX.1.1 hX.1.2.1 hd hv (kk H locs lsr hP hS hL)
theorem g_bipush (hX : gOk X E cc own nL f lo) {z : Int} {v : Int32} (hd : decode cc pc = .ok (.bipush z, 2)) (hv : (Int8.ofInt z).toInt32 = v) (hn : pc + 2 = n) (kk : gG X E M n ls (.int v :: st) Q) : gG X E M pc ls st Q := by
  obtain ⟨p, e, R, s, m, args, below, meth, c, cells, slots, A⟩ := X
  intro H locs lsr hP hS hL
  subst hn
  exact lv_bipush hX.1.1 hX.1.2.1 hd hv (kk H locs lsr hP hS hL)
theorem g_sipush (hX : gOk X E cc own nL f lo) {z : Int} {v : Int32} (hd : decode cc pc = .ok (.sipush z, 3)) (hv : (Int16.ofInt z).toInt32 = v) (hn : pc + 3 = n) (kk : gG X E M n ls (.int v :: st) Q) : gG X E M pc ls st Q := by
  obtain ⟨p, e, R, s, m, args, below, meth, c, cells, slots, A⟩ := X
  intro H locs lsr hP hS hL
  subst hn
  exact lv_sipush hX.1.1 hX.1.2.1 hd hv (kk H locs lsr hP hS hL)
theorem g_iload_n (hX : gOk X E cc own nL f lo) {q : Fin 4} {i : Nat} {x : Int32} (hd : decode cc pc = .ok (.iload_n q, 1)) (hi : (q : Nat) = i) (hl : ls[i]? = some (some (.int x))) (hn : pc + 1 = n) (kk : gG X E M n ls (.int x :: st) Q) : gG X E M pc ls st Q := by
  obtain ⟨p, e, R, s, m, args, below, meth, c, cells, slots, A⟩ := X
  intro H locs lsr hP hS hL
  subst hn
  exact lv_iload_n hX.1.1 hX.1.2.1 hd hi (hL.2.2 _ _ hl).2 (kk H locs lsr hP hS hL)
theorem g_iload (hX : gOk X E cc own nL f lo) {i : Nat} {x : Int32} (hd : decode cc pc = .ok (.iload i, 2)) (hl : ls[i]? = some (some (.int x))) (hn : pc + 2 = n) (kk : gG X E M n ls (.int x :: st) Q) : gG X E M pc ls st Q := by
  obtain ⟨p, e, R, s, m, args, below, meth, c, cells, slots, A⟩ := X
  intro H locs lsr hP hS hL
  subst hn
  exact lv_iload hX.1.1 hX.1.2.1 hd (hL.2.2 _ _ hl).2 (kk H locs lsr hP hS hL)
theorem g_aload_n (hX : gOk X E cc own nL f lo) {q : Fin 4} {i a : Nat} (hd : decode cc pc = .ok (.aload_n q, 1)) (hi : (q : Nat) = i) (hl : ls[i]? = some (some (.ref a))) (hn : pc + 1 = n) (kk : gG X E M n ls (.ref a :: st) Q) : gG X E M pc ls st Q := by
  obtain ⟨p, e, R, s, m, args, below, meth, c, cells, slots, A⟩ := X
  intro H locs lsr hP hS hL
  subst hn
  exact lv_aload_n hX.1.1 hX.1.2.1 hd hi (hL.2.2 _ _ hl).2 (kk H locs lsr hP hS hL)
theorem g_aload (hX : gOk X E cc own nL f lo) {i a : Nat} (hd : decode cc pc = .ok (.aload i, 2)) (hl : ls[i]? = some (some (.ref a))) (hn : pc + 2 = n) (kk : gG X E M n ls (.ref a :: st) Q) : gG X E M pc ls st Q := by
  obtain ⟨p, e, R, s, m, args, below, meth, c, cells, slots, A⟩ := X
  intro H locs lsr hP hS hL
  subst hn
  exact lv_aload hX.1.1 hX.1.2.1 hd (hL.2.2 _ _ hl).2 (kk H locs lsr hP hS hL)
theorem g_istore_n (hX : gOk X E cc own nL f lo) {q : Fin 4} {i : Nat} {x : Int32} (hd : decode cc pc = .ok (.istore_n q, 1)) (hi : (q : Nat) = i) (hlt : i < ls.length) (hn : pc + 1 = n) (kk : gG X E M n (ls.set i (some (.int x))) st Q) : gG X E M pc ls (.int x :: st) Q := by
  obtain ⟨p, e, R, s, m, args, below, meth, c, cells, slots, A⟩ := X
  intro H locs lsr hP hS hL
  subst hn
  exact lv_istore_n hX.1.1 hX.1.2.1 hd hi hL.has hlt rfl (fun lsr' h' => kk H locs lsr' hP hS (hL.set (v := .int x) hlt rfl h'))
theorem g_istore (hX : gOk X E cc own nL f lo) {i : Nat} {x : Int32} (hd : decode cc pc = .ok (.istore i, 2)) (hlt : i < ls.length) (hn : pc + 2 = n) (kk : gG X E M n (ls.set i (some (.int x))) st Q) : gG X E M pc ls (.int x :: st) Q := by
  obtain ⟨p, e, R, s, m, args, below, meth, c, cells, slots, A⟩ := X
  intro H locs lsr hP hS hL
  subst hn
  exact lv_istore hX.1.1 hX.1.2.1 hd hL.has hlt rfl (fun lsr' h' => kk H locs lsr' hP hS (hL.set (v := .int x) hlt rfl h'))
theorem g_astore_n (hX : gOk X E cc own nL f lo) {q : Fin 4} {i a : Nat} (hd : decode cc pc = .ok (.astore_n q, 1)) (hi : (q : Nat) = i) (hlt : i < ls.length) (hn : pc + 1 = n) (kk : gG X E M n (ls.set i (some (.ref a))) st Q) : gG X E M pc ls (.ref a :: st) Q := by
  obtain ⟨p, e, R, s, m, args, below, meth, c, cells, slots, A⟩ := X
  intro H locs lsr hP hS hL
  subst hn
  exact lv_astore_n hX.1.1 hX.1.2.1 hd hi hL.has hlt rfl (fun lsr' h' => kk H locs lsr' hP hS (hL.set (v := .ref a) hlt rfl h'))
theorem g_astore (hX : gOk X E cc own nL f lo) {i a : Nat} (hd : decode cc pc = .ok (.astore i, 2)) (hlt : i < ls.length) (hn : pc + 2 = n) (kk : gG X E M n (ls.set i (some (.ref a))) st Q) : gG X E M pc ls (.ref a :: st) Q := by
  obtain ⟨p, e, R, s, m, args, below, meth, c, cells, slots, A⟩ := X
  intro H locs lsr hP hS hL
  subst hn
  exact lv_astore hX.1.1 hX.1.2.1 hd hL.has hlt rfl (fun lsr' h' => kk H locs lsr' hP hS (hL.set (v := .ref a) hlt rfl h'))
theorem g_iinc (hX : gOk X E cc own nL f lo) {i : Nat} {z : Int} {x v w : Int32} (hd : decode cc pc = .ok (.iinc i z, 3)) (hw : Int32.ofInt z = w) (hl : ls[i]? = some (some (.int x))) (hv : x + w = v) (hlt : i < ls.length) (hn : pc + 3 = n) (kk : gG X E M n (ls.set i (some (.int v))) st Q) : gG X E M pc ls st Q := by
  obtain ⟨p, e, R, s, m, args, below, meth, c, cells, slots, A⟩ := X
  intro H locs lsr hP hS hL
  subst hn
  subst hw; subst hv
  obtain ⟨j, hj⟩ : ∃ j : Nat, (gassoc E.2.1 ls)[j]? = some (i, Value.int x) := List.getElem?_of_mem (List.mem_filterMap.mpr ⟨i, List.mem_range.mpr hlt, by simp [hl, gtr]⟩)
  exact lv_iinc hX.1.1 hX.1.2.1 hd hL.has hj rfl hlt rfl (fun lsr' h' => kk H locs lsr' hP hS (hL.set (v := .int _) hlt rfl h'))
theorem g_iadd (hX : gOk X E cc own nL f lo) {x y : Int32} (hd : decode cc pc = .ok (.iadd, 1)) (hn : pc + 1 = n) (kk : gG X E M n ls (.int (x + y) :: st) Q) : gG X E M pc ls (.int y :: .int x :: st) Q := by
  obtain ⟨p, e, R, s, m, args, below, meth, c, cells, slots, A⟩ := X
  intro H locs lsr hP hS hL
  subst hn
  exact lv_iadd hX.1.1 hX.1.2.1 hd (kk H locs lsr hP hS hL)
theorem g_isub (hX : gOk X E cc own nL f lo) {x y : Int32} (hd : decode cc pc = .ok (.isub, 1)) (hn : pc + 1 = n) (kk : gG X E M n ls (.int (x - y) :: st) Q) : gG X E M pc ls (.int y :: .int x :: st) Q := by
  obtain ⟨p, e, R, s, m, args, below, meth, c, cells, slots, A⟩ := X
  intro H locs lsr hP hS hL
  subst hn
  exact lv_isub hX.1.1 hX.1.2.1 hd (kk H locs lsr hP hS hL)
theorem g_imul (hX : gOk X E cc own nL f lo) {x y : Int32} (hd : decode cc pc = .ok (.imul, 1)) (hn : pc + 1 = n) (kk : gG X E M n ls (.int (x * y) :: st) Q) : gG X E M pc ls (.int y :: .int x :: st) Q := by
  obtain ⟨p, e, R, s, m, args, below, meth, c, cells, slots, A⟩ := X
  intro H locs lsr hP hS hL
  subst hn
  exact lv_imul hX.1.1 hX.1.2.1 hd (kk H locs lsr hP hS hL)
theorem g_iand (hX : gOk X E cc own nL f lo) {x y : Int32} (hd : decode cc pc = .ok (.iand, 1)) (hn : pc + 1 = n) (kk : gG X E M n ls (.int (x &&& y) :: st) Q) : gG X E M pc ls (.int y :: .int x :: st) Q := by
  obtain ⟨p, e, R, s, m, args, below, meth, c, cells, slots, A⟩ := X
  intro H locs lsr hP hS hL
  subst hn
  exact lv_iand hX.1.1 hX.1.2.1 hd (kk H locs lsr hP hS hL)
theorem g_ishl (hX : gOk X E cc own nL f lo) {x y : Int32} (hd : decode cc pc = .ok (.ishl, 1)) (hn : pc + 1 = n) (kk : gG X E M n ls (.int (x <<< (y &&& 31)) :: st) Q) : gG X E M pc ls (.int y :: .int x :: st) Q := by
  obtain ⟨p, e, R, s, m, args, below, meth, c, cells, slots, A⟩ := X
  intro H locs lsr hP hS hL
  subst hn
  exact lv_ishl hX.1.1 hX.1.2.1 hd (kk H locs lsr hP hS hL)
theorem g_ishr (hX : gOk X E cc own nL f lo) {x y : Int32} (hd : decode cc pc = .ok (.ishr, 1)) (hn : pc + 1 = n) (kk : gG X E M n ls (.int (x >>> (y &&& 31)) :: st) Q) : gG X E M pc ls (.int y :: .int x :: st) Q := by
  obtain ⟨p, e, R, s, m, args, below, meth, c, cells, slots, A⟩ := X
  intro H locs lsr hP hS hL
  subst hn
  exact lv_ishr hX.1.1 hX.1.2.1 hd (kk H locs lsr hP hS hL)
theorem g_idiv (hX : gOk X E cc own nL f lo) {x y : Int32} (hd : decode cc pc = .ok (.idiv, 1)) (hne : ¬ y = 0) (hn : pc + 1 = n) (kk : gG X E M n ls (.int (x / y) :: st) Q) : gG X E M pc ls (.int y :: .int x :: st) Q := by
  obtain ⟨p, e, R, s, m, args, below, meth, c, cells, slots, A⟩ := X
  intro H locs lsr hP hS hL
  subst hn
  exact lv_idiv hX.1.1 hX.1.2.1 hd hne (kk H locs lsr hP hS hL)
theorem g_irem (hX : gOk X E cc own nL f lo) {x y : Int32} (hd : decode cc pc = .ok (.irem, 1)) (hne : ¬ y = 0) (hn : pc + 1 = n) (kk : gG X E M n ls (.int (x - x / y * y) :: st) Q) : gG X E M pc ls (.int y :: .int x :: st) Q := by
  obtain ⟨p, e, R, s, m, args, below, meth, c, cells, slots, A⟩ := X
  intro H locs lsr hP hS hL
  subst hn
  exact lv_irem hX.1.1 hX.1.2.1 hd hne (kk H locs lsr hP hS hL)
theorem g_iaddN (hX : gOk X E cc own nL f lo) {a b : Nat} (hd : decode cc pc = .ok (.iadd, 1)) (hn : pc + 1 = n) (kk : gG X E M n ls (.int (nI (a + b)) :: st) Q) : gG X E M pc ls (.int (nI b) :: .int (nI a) :: st) Q := by
  obtain ⟨p, e, R, s, m, args, below, meth, c, cells, slots, A⟩ := X
  intro H locs lsr hP hS hL
  subst hn
  exact lv_iadd hX.1.1 hX.1.2.1 hd (by rw [nI_add]; exact kk H locs lsr hP hS hL)
theorem g_imulN (hX : gOk X E cc own nL f lo) {a b : Nat} (hd : decode cc pc = .ok (.imul, 1)) (hn : pc + 1 = n) (kk : gG X E M n ls (.int (nI (a * b)) :: st) Q) : gG X E M pc ls (.int (nI b) :: .int (nI a) :: st) Q := by
  obtain ⟨p, e, R, s, m, args, below, meth, c, cells, slots, A⟩ := X
  intro H locs lsr hP hS hL
  subst hn
  exact lv_imul hX.1.1 hX.1.2.1 hd (by rw [pk_mul]; exact kk H locs lsr hP hS hL)
theorem g_isubN (hX : gOk X E cc own nL f lo) {a b : Nat} (hd : decode cc pc = .ok (.isub, 1)) (hle : b ≤ a) (hn : pc + 1 = n) (kk : gG X E M n ls (.int (nI (a - b)) :: st) Q) : gG X E M pc ls (.int (nI b) :: .int (nI a) :: st) Q := by
  obtain ⟨p, e, R, s, m, args, below, meth, c, cells, slots, A⟩ := X
  intro H locs lsr hP hS hL
  subst hn
  exact lv_isub hX.1.1 hX.1.2.1 hd (by rw [pk_sub hle]; exact kk H locs lsr hP hS hL)
theorem g_iincN (hX : gOk X E cc own nL f lo) {i a b : Nat} {z : Int} (hd : decode cc pc = .ok (.iinc i z, 3)) (hw : Int32.ofInt z = nI b) (hl : ls[i]? = some (some (.int (nI a)))) (hlt : i < ls.length) (hn : pc + 3 = n) (kk : gG X E M n (ls.set i (some (.int (nI (a + b))))) st Q) : gG X E M pc ls st Q := g_iinc hX hd hw hl (nI_add a b) hlt hn kk
theorem g_i2c (hX : gOk X E cc own nL f lo) {x : Int32} (hd : decode cc pc = .ok (.i2c, 1)) (hn : pc + 1 = n) (kk : gG X E M n ls (.int (x.toUInt32 % 65536).toInt32 :: st) Q) : gG X E M pc ls (.int x :: st) Q := by
  obtain ⟨p, e, R, s, m, args, below, meth, c, cells, slots, A⟩ := X
  intro H locs lsr hP hS hL
  subst hn
  exact lv_i2c hX.1.1 hX.1.2.1 hd rfl (kk H locs lsr hP hS hL)
theorem g_dup (hX : gOk X E cc own nL f lo) {v : Value} (hd : decode cc pc = .ok (.dup, 1)) (hv : v.category = 1) (hn : pc + 1 = n) (kk : gG X E M n ls (v :: v :: st) Q) : gG X E M pc ls (v :: st) Q := by
  obtain ⟨p, e, R, s, m, args, below, meth, c, cells, slots, A⟩ := X
  intro H locs lsr hP hS hL
  subst hn
  exact lv_dup hX.1.1 hX.1.2.1 hd ((gtr_cat _ _).trans hv) (kk H locs lsr hP hS hL)
theorem g_dup2 (hX : gOk X E cc own nL f lo) {v w : Value} (hd : decode cc pc = .ok (.dup2, 1)) (hv : v.category = 1) (hw : w.category = 1) (hn : pc + 1 = n) (kk : gG X E M n ls (v :: w :: v :: w :: st) Q) : gG X E M pc ls (v :: w :: st) Q := by
  obtain ⟨p, e, R, s, m, args, below, meth, c, cells, slots, A⟩ := X
  intro H locs lsr hP hS hL
  subst hn
  exact lv_dup2_11 hX.1.1 hX.1.2.1 hd ((gtr_cat _ _).trans hv) ((gtr_cat _ _).trans hw) (kk H locs lsr hP hS hL)
theorem g_pop (hX : gOk X E cc own nL f lo) {v : Value} (hd : decode cc pc = .ok (.pop, 1)) (hv : v.category = 1) (hn : pc + 1 = n) (kk : gG X E M n ls st Q) : gG X E M pc ls (v :: st) Q := by
  obtain ⟨p, e, R, s, m, args, below, meth, c, cells, slots, A⟩ := X
  intro H locs lsr hP hS hL
  subst hn
  exact lv_pop hX.1.1 hX.1.2.1 hd ((gtr_cat _ _).trans hv) (kk H locs lsr hP hS hL)
theorem g_goto (hX : gOk X E cc own nL f lo) {off : Int} (hd : decode cc pc = .ok (.goto off, 3)) (hn : (pc : Int) + off = (n : Int)) (kk : gG X E M n ls st Q) : gG X E M pc ls st Q := by
  obtain ⟨p, e, R, s, m, args, below, meth, c, cells, slots, A⟩ := X
  intro H locs lsr hP hS hL
  exact lv_goto hX.1.1 hX.1.2.1 hd hn (kk H locs lsr hP hS hL)
theorem g_if_eq (hX : gOk X E cc own nL f lo) {x : Int32} {off : Int} {tgt : Nat} (hd : decode cc pc = .ok (.ifCond .eq off, 3)) (ht : (pc : Int) + off = (tgt : Int)) (hn : pc + 3 = n) (kt : x = 0 → gG X E M tgt ls st Q) (kf : ¬ (x = 0) → gG X E M n ls st Q) : gG X E M pc ls (.int x :: st) Q := by
  obtain ⟨p, e, R, s, m, args, below, meth, c, cells, slots, A⟩ := X
  intro H locs lsr hP hS hL
  subst hn
  exact lv_if_eq hX.1.1 hX.1.2.1 hd ht (fun h => kt h H locs lsr hP hS hL) (fun h => kf h H locs lsr hP hS hL)
theorem g_if_ne (hX : gOk X E cc own nL f lo) {x : Int32} {off : Int} {tgt : Nat} (hd : decode cc pc = .ok (.ifCond .ne off, 3)) (ht : (pc : Int) + off = (tgt : Int)) (hn : pc + 3 = n) (kt : ¬ x = 0 → gG X E M tgt ls st Q) (kf : x = 0 → gG X E M n ls st Q) : gG X E M pc ls (.int x :: st) Q := by
  obtain ⟨p, e, R, s, m, args, below, meth, c, cells, slots, A⟩ := X
  intro H locs lsr hP hS hL
  subst hn
  exact lv_if_ne hX.1.1 hX.1.2.1 hd ht (fun h => kt h H locs lsr hP hS hL) (fun h => kf h H locs lsr hP hS hL)
theorem g_if_lt (hX : gOk X E cc own nL f lo) {x : Int32} {off : Int} {tgt : Nat} (hd : decode cc pc = .ok (.ifCond .lt off, 3)) (ht : (pc : Int) + off = (tgt : Int)) (hn : pc + 3 = n) (kt : x < 0 → gG X E M tgt ls st Q) (kf : ¬ (x < 0) → gG X E M n ls st Q) : gG X E M pc ls (.int x :: st) Q := by
  obtain ⟨p, e, R, s, m, args, below, meth, c, cells, slots, A⟩ := X
  intro H locs lsr hP hS hL
  subst hn
  exact lv_if_lt hX.1.1 hX.1.2.1 hd ht (fun h => kt h H locs lsr hP hS hL) (fun h => kf h H locs lsr hP hS hL)
theorem g_if_ge (hX : gOk X E cc own nL f lo) {x : Int32} {off : Int} {tgt : Nat} (hd : decode cc pc = .ok (.ifCond .ge off, 3)) (ht : (pc : Int) + off = (tgt : Int)) (hn : pc + 3 = n) (kt : 0 ≤ x → gG X E M tgt ls st Q) (kf : ¬ (0 ≤ x) → gG X E M n ls st Q) : gG X E M pc ls (.int x :: st) Q := by
  obtain ⟨p, e, R, s, m, args, below, meth, c, cells, slots, A⟩ := X
  intro H locs lsr hP hS hL
  subst hn
  exact lv_if_ge hX.1.1 hX.1.2.1 hd ht (fun h => kt h H locs lsr hP hS hL) (fun h => kf h H locs lsr hP hS hL)
theorem g_if_gt (hX : gOk X E cc own nL f lo) {x : Int32} {off : Int} {tgt : Nat} (hd : decode cc pc = .ok (.ifCond .gt off, 3)) (ht : (pc : Int) + off = (tgt : Int)) (hn : pc + 3 = n) (kt : 0 < x → gG X E M tgt ls st Q) (kf : ¬ (0 < x) → gG X E M n ls st Q) : gG X E M pc ls (.int x :: st) Q := by
  obtain ⟨p, e, R, s, m, args, below, meth, c, cells, slots, A⟩ := X
  intro H locs lsr hP hS hL
  subst hn
  exact lv_if_gt hX.1.1 hX.1.2.1 hd ht (fun h => kt h H locs lsr hP hS hL) (fun h => kf h H locs lsr hP hS hL)
theorem g_if_le (hX : gOk X E cc own nL f lo) {x : Int32} {off : Int} {tgt : Nat} (hd : decode cc pc = .ok (.ifCond .le off, 3)) (ht : (pc : Int) + off = (tgt : Int)) (hn : pc + 3 = n) (kt : x ≤ 0 → gG X E M tgt ls st Q) (kf : ¬ (x ≤ 0) → gG X E M n ls st Q) : gG X E M pc ls (.int x :: st) Q := by
  obtain ⟨p, e, R, s, m, args, below, meth, c, cells, slots, A⟩ := X
  intro H locs lsr hP hS hL
  subst hn
  exact lv_if_le hX.1.1 hX.1.2.1 hd ht (fun h => kt h H locs lsr hP hS hL) (fun h => kf h H locs lsr hP hS hL)
theorem g_icmp_eq (hX : gOk X E cc own nL f lo) {x y : Int32} {off : Int} {tgt : Nat} (hd : decode cc pc = .ok (.if_icmp .eq off, 3)) (ht : (pc : Int) + off = (tgt : Int)) (hn : pc + 3 = n) (kt : x = y → gG X E M tgt ls st Q) (kf : ¬ (x = y) → gG X E M n ls st Q) : gG X E M pc ls (.int y :: .int x :: st) Q := by
  obtain ⟨p, e, R, s, m, args, below, meth, c, cells, slots, A⟩ := X
  intro H locs lsr hP hS hL
  subst hn
  exact lv_icmp_eq hX.1.1 hX.1.2.1 hd ht (fun h => kt h H locs lsr hP hS hL) (fun h => kf h H locs lsr hP hS hL)
theorem g_icmp_eqN (hX : gOk X E cc own nL f lo) {a b : Nat} {off : Int} {tgt : Nat} (hd : decode cc pc = .ok (.if_icmp .eq off, 3)) (ht : (pc : Int) + off = (tgt : Int)) (hn : pc + 3 = n) (ha : a < 2 ^ 31) (hb : b < 2 ^ 31) (kt : a = b → gG X E M tgt ls st Q) (kf : ¬ (a = b) → gG X E M n ls st Q) : gG X E M pc ls (.int (nI b) :: .int (nI a) :: st) Q :=
  g_icmp_eq hX hd ht hn (fun h => kt ((nI_eq ha hb).mp h)) (fun h => kf (fun q => h ((nI_eq ha hb).mpr q)))
theorem g_icmp_ne (hX : gOk X E cc own nL f lo) {x y : Int32} {off : Int} {tgt : Nat} (hd : decode cc pc = .ok (.if_icmp .ne off, 3)) (ht : (pc : Int) + off = (tgt : Int)) (hn : pc + 3 = n) (kt : ¬ x = y → gG X E M tgt ls st Q) (kf : x = y → gG X E M n ls st Q) : gG X E M pc ls (.int y :: .int x :: st) Q := by
  obtain ⟨p, e, R, s, m, args, below, meth, c, cells, slots, A⟩ := X
  intro H locs lsr hP hS hL
  subst hn
  exact lv_icmp_ne hX.1.1 hX.1.2.1 hd ht (fun h => kt h H locs lsr hP hS hL) (fun h => kf h H locs lsr hP hS hL)
theorem g_icmp_neN (hX : gOk X E cc own nL f lo) {a b : Nat} {off : Int} {tgt : Nat} (hd : decode cc pc = .ok (.if_icmp .ne off, 3)) (ht : (pc : Int) + off = (tgt : Int)) (hn : pc + 3 = n) (ha : a < 2 ^ 31) (hb : b < 2 ^ 31) (kt : ¬ a = b → gG X E M tgt ls st Q) (kf : a = b → gG X E M n ls st Q) : gG X E M pc ls (.int (nI b) :: .int (nI a) :: st) Q :=
  g_icmp_ne hX hd ht hn (fun h => kt ((not_congr (nI_eq ha hb)).mp h)) (fun h => kf ((nI_eq ha hb).mp h))
theorem g_icmp_lt (hX : gOk X E cc own nL f lo) {x y : Int32} {off : Int} {tgt : Nat} (hd : decode cc pc = .ok (.if_icmp .lt off, 3)) (ht : (pc : Int) + off = (tgt : Int)) (hn : pc + 3 = n) (kt : x < y → gG X E M tgt ls st Q) (kf : ¬ (x < y) → gG X E M n ls st Q) : gG X E M pc ls (.int y :: .int x :: st) Q := by
  obtain ⟨p, e, R, s, m, args, below, meth, c, cells, slots, A⟩ := X
  intro H locs lsr hP hS hL
  subst hn
  exact lv_icmp_lt hX.1.1 hX.1.2.1 hd ht (fun h => kt h H locs lsr hP hS hL) (fun h => kf h H locs lsr hP hS hL)
theorem g_icmp_ltN (hX : gOk X E cc own nL f lo) {a b : Nat} {off : Int} {tgt : Nat} (hd : decode cc pc = .ok (.if_icmp .lt off, 3)) (ht : (pc : Int) + off = (tgt : Int)) (hn : pc + 3 = n) (ha : a < 2 ^ 31) (hb : b < 2 ^ 31) (kt : a < b → gG X E M tgt ls st Q) (kf : ¬ (a < b) → gG X E M n ls st Q) : gG X E M pc ls (.int (nI b) :: .int (nI a) :: st) Q :=
  g_icmp_lt hX hd ht hn (fun h => kt ((nI_ltI ha hb).mp h)) (fun h => kf (fun q => h ((nI_ltI ha hb).mpr q)))
theorem g_icmp_ge (hX : gOk X E cc own nL f lo) {x y : Int32} {off : Int} {tgt : Nat} (hd : decode cc pc = .ok (.if_icmp .ge off, 3)) (ht : (pc : Int) + off = (tgt : Int)) (hn : pc + 3 = n) (kt : y ≤ x → gG X E M tgt ls st Q) (kf : ¬ (y ≤ x) → gG X E M n ls st Q) : gG X E M pc ls (.int y :: .int x :: st) Q := by
  obtain ⟨p, e, R, s, m, args, below, meth, c, cells, slots, A⟩ := X
  intro H locs lsr hP hS hL
  subst hn
  exact lv_icmp_ge hX.1.1 hX.1.2.1 hd ht (fun h => kt h H locs lsr hP hS hL) (fun h => kf h H locs lsr hP hS hL)
theorem g_icmp_geN (hX : gOk X E cc own nL f lo) {a b : Nat} {off : Int} {tgt : Nat} (hd : decode cc pc = .ok (.if_icmp .ge off, 3)) (ht : (pc : Int) + off = (tgt : Int)) (hn : pc + 3 = n) (ha : a < 2 ^ 31) (hb : b < 2 ^ 31) (kt : b ≤ a → gG X E M tgt ls st Q) (kf : ¬ (b ≤ a) → gG X E M n ls st Q) : gG X E M pc ls (.int (nI b) :: .int (nI a) :: st) Q :=
  g_icmp_ge hX hd ht hn (fun h => kt ((nI_leI hb ha).mp h)) (fun h => kf (fun q => h ((nI_leI hb ha).mpr q)))
theorem g_icmp_gt (hX : gOk X E cc own nL f lo) {x y : Int32} {off : Int} {tgt : Nat} (hd : decode cc pc = .ok (.if_icmp .gt off, 3)) (ht : (pc : Int) + off = (tgt : Int)) (hn : pc + 3 = n) (kt : y < x → gG X E M tgt ls st Q) (kf : ¬ (y < x) → gG X E M n ls st Q) : gG X E M pc ls (.int y :: .int x :: st) Q := by
  obtain ⟨p, e, R, s, m, args, below, meth, c, cells, slots, A⟩ := X
  intro H locs lsr hP hS hL
  subst hn
  exact lv_icmp_gt hX.1.1 hX.1.2.1 hd ht (fun h => kt h H locs lsr hP hS hL) (fun h => kf h H locs lsr hP hS hL)
theorem g_icmp_gtN (hX : gOk X E cc own nL f lo) {a b : Nat} {off : Int} {tgt : Nat} (hd : decode cc pc = .ok (.if_icmp .gt off, 3)) (ht : (pc : Int) + off = (tgt : Int)) (hn : pc + 3 = n) (ha : a < 2 ^ 31) (hb : b < 2 ^ 31) (kt : b < a → gG X E M tgt ls st Q) (kf : ¬ (b < a) → gG X E M n ls st Q) : gG X E M pc ls (.int (nI b) :: .int (nI a) :: st) Q :=
  g_icmp_gt hX hd ht hn (fun h => kt ((nI_ltI hb ha).mp h)) (fun h => kf (fun q => h ((nI_ltI hb ha).mpr q)))
theorem g_icmp_le (hX : gOk X E cc own nL f lo) {x y : Int32} {off : Int} {tgt : Nat} (hd : decode cc pc = .ok (.if_icmp .le off, 3)) (ht : (pc : Int) + off = (tgt : Int)) (hn : pc + 3 = n) (kt : x ≤ y → gG X E M tgt ls st Q) (kf : ¬ (x ≤ y) → gG X E M n ls st Q) : gG X E M pc ls (.int y :: .int x :: st) Q := by
  obtain ⟨p, e, R, s, m, args, below, meth, c, cells, slots, A⟩ := X
  intro H locs lsr hP hS hL
  subst hn
  exact lv_icmp_le hX.1.1 hX.1.2.1 hd ht (fun h => kt h H locs lsr hP hS hL) (fun h => kf h H locs lsr hP hS hL)
theorem g_icmp_leN (hX : gOk X E cc own nL f lo) {a b : Nat} {off : Int} {tgt : Nat} (hd : decode cc pc = .ok (.if_icmp .le off, 3)) (ht : (pc : Int) + off = (tgt : Int)) (hn : pc + 3 = n) (ha : a < 2 ^ 31) (hb : b < 2 ^ 31) (kt : a ≤ b → gG X E M tgt ls st Q) (kf : ¬ (a ≤ b) → gG X E M n ls st Q) : gG X E M pc ls (.int (nI b) :: .int (nI a) :: st) Q :=
  g_icmp_le hX hd ht hn (fun h => kt ((nI_leI ha hb).mp h)) (fun h => kf (fun q => h ((nI_leI ha hb).mpr q)))
theorem g_tableIn (hX : gOk X E cc own nL f lo) {dflt l0 h0 : Int} {offs : Array Int} {len : Nat} {x : Int32} {off : Int} (hd : decode cc pc = .ok (.tableswitch dflt l0 h0 offs, len)) (h1 : ¬ x.toInt < l0) (h2 : ¬ h0 < x.toInt) (ho : offs[(x.toInt - l0).toNat]? = some off) (hn : (pc : Int) + off = (n : Int)) (kk : gG X E M n ls st Q) : gG X E M pc ls (.int x :: st) Q := by
  obtain ⟨p, e, R, s, m, args, below, meth, c, cells, slots, A⟩ := X
  intro H locs lsr hP hS hL
  exact lv_tableIn hX.1.1 hX.1.2.1 hd h1 h2 ho hn (kk H locs lsr hP hS hL)
theorem g_tableOut (hX : gOk X E cc own nL f lo) {dflt l0 h0 : Int} {offs : Array Int} {len : Nat} {x : Int32} (hd : decode cc pc = .ok (.tableswitch dflt l0 h0 offs, len)) (h : x.toInt < l0 ∨ h0 < x.toInt) (hn : (pc : Int) + dflt = (n : Int)) (kk : gG X E M n ls st Q) : gG X E M pc ls (.int x :: st) Q := by
  obtain ⟨p, e, R, s, m, args, below, meth, c, cells, slots, A⟩ := X
  intro H locs lsr hP hS hL
  exact lv_tableOut hX.1.1 hX.1.2.1 hd h hn (kk H locs lsr hP hS hL)
theorem g_lookup (hX : gOk X E cc own nL f lo) {dflt : Int} {ps : Array (Int × Int)} {len : Nat} {x : Int32} {off : Int} (hd : decode cc pc = .ok (.lookupswitch dflt ps, len)) (hp : (ps.toList.zip (ps.toList.drop 1)).all (fun (a, next) => a.1 < next.1) = true) (ho : Op.lookupswitch.offset ps.toList dflt x.toInt = off) (hn : (pc : Int) + off = (n : Int)) (kk : gG X E M n ls st Q) : gG X E M pc ls (.int x :: st) Q := by
  obtain ⟨p, e, R, s, m, args, below, meth, c, cells, slots, A⟩ := X
  intro H locs lsr hP hS hL
  exact lv_lookup hX.1.1 hX.1.2.1 hd hp ho hn (kk H locs lsr hP hS hL)
def gFl (own : String) (idx ci k : Nat) : Prop := ∃ (C : String) (T : u_T) (N : Nat), vwCl[ci]? = some (C, T, N) ∧ (∀ w ∈ u_ws C T N, w ∈ gW) ∧ k < N ∧ Cond.fieldLink own idx (T k).1 (T k).2.1 (T k).2.2.1 ∈ gW
def gFp (own : String) (idx ci k : Nat) (ty : FieldType) : Prop := ∃ (C : String) (T : u_T) (N : Nat) (ty0 : Nat → FieldType), vwCl[ci]? = some (C, T, N) ∧ (∀ w ∈ u_ws C T N, w ∈ gW) ∧ k < N ∧ Cond.fieldLink own idx (T k).1 (T k).2.1 (T k).2.2.1 ∈ gW ∧ (∀ k, k < N → parseFieldDescriptor (T k).2.2.1 = some (ty0 k)) ∧ (∀ a, a < N → ∀ b, b < N → a ≠ b → (T a).2.1 ≠ (T b).2.1) ∧ (T k).2.2.2 = false ∧ parseFieldDescriptor (T k).2.2.1 = some ty
theorem g_getV (hX : gOk X E cc own nL f lo) {idx ci k a : Nat} {fs : List (Option Nat)} {o : Option Nat} (hF : gFl own idx ci k) (hs : shp[a]? = some (0, ci, fs)) (hf : fs[k]? = some o) (hd : decode cc pc = .ok (.getfield idx, 3)) {p e R s m args below meth c cells slots A} (eX : X = (p, e, R, s, m, args, below, meth, c, cells, slots, A)) {H : Heap} {locs : List Loc} {lsr : Array Slot} {rest : List Value} (hP : va_P E.2.2.1 vwCl (gws E M) H)
    (kk : W p E.1 e R s m args below meth c H locs cells slots Q (F0 m (pc + 3) lsr (gfv E.2.1 (M a) k o :: rest))) : W p E.1 e R s m args below meth c H locs cells slots Q (F0 m pc lsr (.ref (E.2.1 a) :: rest)) := by
  subst eX
  obtain ⟨C, T, N, h1, h2, h3, h4⟩ := hF
  have hv : (gfs E.2.1 (M a) 0 fs)[k]? = some (gfv E.2.1 (M a) k o) := by rw [gfs_get, hf]; simp
  exact va_get hX.1.1 hX.1.2.1 hX.1.2.2.2.2 h2 hX.1.2.2.2.1 hX.2.2.2.1 hP a (gws_get hs) h1 k h3 (hX.1.2.2.2.2 _ h4) (fun _ h => h) hv hd kk
theorem g_getI (hX : gOk X E cc own nL f lo) {idx ci k a : Nat} {fs : List (Option Nat)} (hF : gFl own idx ci k) (hs : shp[a]? = some (0, ci, fs)) (hf : fs[k]? = some none) (hd : decode cc pc = .ok (.getfield idx, 3)) (hn : pc + 3 = n) (kk : gG X E M n ls (.int (M a k) :: st) Q) : gG X E M pc ls (.ref a :: st) Q := by
  obtain ⟨p, e, R, s, m, args, below, meth, c, cells, slots, A⟩ := X
  intro H locs lsr hP hS hL
  subst hn
  exact g_getV hX hF hs hf hd rfl hP (kk H locs lsr hP hS hL)
theorem g_getR (hX : gOk X E cc own nL f lo) {idx ci k a b : Nat} {fs : List (Option Nat)} (hF : gFl own idx ci k) (hs : shp[a]? = some (0, ci, fs)) (hf : fs[k]? = some (some b)) (hd : decode cc pc = .ok (.getfield idx, 3)) (hn : pc + 3 = n) (kk : gG X E M n ls (.ref b :: st) Q) : gG X E M pc ls (.ref a :: st) Q := by
  obtain ⟨p, e, R, s, m, args, below, meth, c, cells, slots, A⟩ := X
  intro H locs lsr hP hS hL
  subst hn
  exact g_getV hX hF hs hf hd rfl hP (kk H locs lsr hP hS hL)
theorem g_putV (hX : gOk X E cc own nL f lo) {idx ci k a : Nat} {fs : List (Option Nat)} {ty : FieldType} {x : Int32} (hF : gFp own idx ci k ty) (hs : shp[a]? = some (0, ci, fs)) (hf : fs[k]? = some none) (hn1 : narrow ty (.int x) = .int x) (hfit : fits ty (.int x) = true) (hd : decode cc pc = .ok (.putfield idx, 3)) (hn : pc + 3 = n) (kk : gG X E (gset M a (upd (M a) k x)) n ls st Q) : gG X E M pc ls (.int x :: .ref a :: st) Q := by
  obtain ⟨p, e, R, s, m, args, below, meth, c, cells, slots, A⟩ := X
  intro H locs lsr hP hS hL
  subst hn
  obtain ⟨C, T, N, ty0, h1, h2, h3, h4, h5, h6, h7, h8⟩ := hF
  have hlen : k < (gfs E.2.1 (M a) 0 fs).length := by rw [gfs_len]; exact (List.getElem?_eq_some_iff.mp hf).1
  refine va_put hX.1.1 hX.1.2.1 hX.1.2.2.2.2 h2 ty0 h5 h6 hX.1.2.2.2.1 hX.2.2.2.1 hP hX.2.2.2.D hS a (gws_get hs) h1 k h3 (hX.1.2.2.2.2 _ h4) (fun _ h => h) h7 h8 hn1 hfit hlen hd (fun H1 locs1 hP1 hD1 hS1 => kk H1 locs1 lsr ?_ hS1 hL)
  have hP1 : va_P E.2.2.1 vwCl ((gws E M).set a (E.2.1 a, .inr (ci, (gfs E.2.1 (M a) 0 fs).set k (.int x)))) H1 := hP1
  rw [gfs_set _ _ _ _ _ hf] at hP1
  have e := gws_set (E := E) (M := M) (r := upd (M a) k x) hs
  rw [← e]
  exact hP1
theorem g_putI (hX : gOk X E cc own nL f lo) {idx ci k a : Nat} {fs : List (Option Nat)} {x : Int32} (hF : gFp own idx ci k .int) (hs : shp[a]? = some (0, ci, fs)) (hf : fs[k]? = some none) (hd : decode cc pc = .ok (.putfield idx, 3)) (hn : pc + 3 = n) (kk : gG X E (gset M a (upd (M a) k x)) n ls st Q) : gG X E M pc ls (.int x :: .ref a :: st) Q := g_putV hX hF hs hf rfl rfl hd hn kk
theorem g_putZ (hX : gOk X E cc own nL f lo) {idx ci k a : Nat} {fs : List (Option Nat)} {x : Int32} (hF : gFp own idx ci k .boolean) (hs : shp[a]? = some (0, ci, fs)) (hf : fs[k]? = some none) (hx : x = 0 ∨ x = 1) (hd : decode cc pc = .ok (.putfield idx, 3)) (hn : pc + 3 = n) (kk : gG X E (gset M a (upd (M a) k x)) n ls st Q) : gG X E M pc ls (.int x :: .ref a :: st) Q := g_putV hX hF hs hf (by rcases hx with rfl | rfl <;> rfl) (by rcases hx with rfl | rfl <;> rfl) hd hn kk
theorem g_iald (hX : gOk X E cc own nL f lo) {a N j : Nat} {fs : List (Option Nat)} {i : Int32} (hs : shp[a]? = some (1, N, fs)) (hi : i = nI j) (hj : j < N) (hN : Nat.ble N 5000 = true) (hd : decode cc pc = .ok (.iaload, 1)) (hn : pc + 1 = n) (kk : gG X E M n ls (.int (M a j) :: st) Q) : gG X E M pc ls (.int i :: .ref a :: st) Q := by
  obtain ⟨p, e, R, s, m, args, below, meth, c, cells, slots, A⟩ := X
  intro H locs lsr hP hS hL
  subst hn
  have hN' : N ≤ 5000 := Nat.le_of_ble_eq_true hN
  have hc : i.toNatClampNeg = j := by rw [hi]; exact nI_clamp (by omega)
  rw [← hc] at kk
  exact va_iald hX.1.1 hX.1.2.1 hX.2.2.2.1 hP a 0 (gws_get hs) rfl (by rw [hi]; exact vp_in_nI (N := N) hj (by omega)) hd (kk H locs lsr hP hS hL)
theorem g_cald (hX : gOk X E cc own nL f lo) {a N j : Nat} {fs : List (Option Nat)} {i : Int32} (hs : shp[a]? = some (2, N, fs)) (hi : i = nI j) (hj : j < N) (hN : Nat.ble N 5000 = true) (hd : decode cc pc = .ok (.caload, 1)) (hn : pc + 1 = n) (kk : gG X E M n ls (.int (M a j) :: st) Q) : gG X E M pc ls (.int i :: .ref a :: st) Q := by
  obtain ⟨p, e, R, s, m, args, below, meth, c, cells, slots, A⟩ := X
  intro H locs lsr hP hS hL
  subst hn
  have hN' : N ≤ 5000 := Nat.le_of_ble_eq_true hN
  have hc : i.toNatClampNeg = j := by rw [hi]; exact nI_clamp (by omega)
  rw [← hc] at kk
  exact va_cald hX.1.1 hX.1.2.1 hX.2.2.2.1 hP a 1 (gws_get hs) rfl (by rw [hi]; exact vp_in_nI (N := N) hj (by omega)) hd (kk H locs lsr hP hS hL)
theorem g_iast (hX : gOk X E cc own nL f lo) {a N j : Nat} {fs : List (Option Nat)} {i x : Int32} (hs : shp[a]? = some (1, N, fs)) (hi : i = nI j) (hj : j < N) (hN : Nat.ble N 5000 = true) (hd : decode cc pc = .ok (.iastore, 1)) (hn : pc + 1 = n) (kk : gG X E (gset M a (upd (M a) j x)) n ls st Q) : gG X E M pc ls (.int x :: .int i :: .ref a :: st) Q := by
  obtain ⟨p, e, R, s, m, args, below, meth, c, cells, slots, A⟩ := X
  intro H locs lsr hP hS hL
  subst hn
  have hN' : N ≤ 5000 := Nat.le_of_ble_eq_true hN
  have hc : i.toNatClampNeg = j := by rw [hi]; exact nI_clamp (by omega)
  rw [← hc] at kk
  refine va_iast hX.1.1 hX.1.2.1 hX.2.2.2.1 hP hX.2.2.2.D hS a 0 (gws_get hs) rfl (by rw [hi]; exact vp_in_nI (N := N) hj (by omega)) hd (fun H1 locs1 hP1 hD1 hS1 => kk H1 locs1 lsr ?_ hS1 hL)
  have e := gws_set (E := E) (M := M) (r := upd (M a) i.toNatClampNeg x) hs
  rw [← e]
  exact hP1
theorem g_cast (hX : gOk X E cc own nL f lo) {a N j : Nat} {fs : List (Option Nat)} {i x : Int32} (hs : shp[a]? = some (2, N, fs)) (hi : i = nI j) (hj : j < N) (hN : Nat.ble N 5000 = true) (hd : decode cc pc = .ok (.castore, 1)) (hn : pc + 1 = n) (kk : gG X E (gset M a (upd (M a) j (vp_nar .char x))) n ls st Q) : gG X E M pc ls (.int x :: .int i :: .ref a :: st) Q := by
  obtain ⟨p, e, R, s, m, args, below, meth, c, cells, slots, A⟩ := X
  intro H locs lsr hP hS hL
  subst hn
  have hN' : N ≤ 5000 := Nat.le_of_ble_eq_true hN
  have hc : i.toNatClampNeg = j := by rw [hi]; exact nI_clamp (by omega)
  rw [← hc] at kk
  refine va_cast hX.1.1 hX.1.2.1 hX.2.2.2.1 hP hX.2.2.2.D hS a 1 (gws_get hs) rfl (by rw [hi]; exact vp_in_nI (N := N) hj (by omega)) hd (fun H1 locs1 hP1 hD1 hS1 => kk H1 locs1 lsr ?_ hS1 hL)
  have e := gws_set (E := E) (M := M) (r := upd (M a) i.toNatClampNeg (vp_nar .char x)) hs
  rw [← e]
  exact hP1
theorem g_aald (hX : gOk X E cc own nL f lo) {a N j b : Nat} {fs : List (Option Nat)} {i : Int32} (hs : shp[a]? = some (3, N, fs)) (hi : i = nI j) (hj : j < N) (hb : fs[j]? = some (some b)) (hN : Nat.ble N 5000 = true) (hd : decode cc pc = .ok (.aaload, 1)) (hn : pc + 1 = n) (kk : gG X E M n ls (.ref b :: st) Q) : gG X E M pc ls (.int i :: .ref a :: st) Q := by
  obtain ⟨p, e, R, s, m, args, below, meth, c, cells, slots, A⟩ := X
  intro H locs lsr hP hS hL
  subst hn
  have hN' : N ≤ 5000 := Nat.le_of_ble_eq_true hN
  have hc : i.toNatClampNeg = j := by rw [hi]; exact nI_clamp (by omega)
  refine va_aldq hX.1.1 hX.1.2.1 hX.2.2.2.1 hP a 2 (gws_get hs) rfl (by rw [hi]; exact vp_in_nI (N := N) hj (by omega)) hd ?_
  have hq : (fs.getD j none).map E.2.1 = some (E.2.1 b) := by simp [List.getD, hb]
  rw [hc]
  dsimp only
  rw [hq]
  exact kk H locs lsr hP hS hL
theorem g_alen (hX : gOk X E cc own nL f lo) {a N : Nat} {fs : List (Option Nat)} (hs : shp[a]? = some (1, N, fs)) (hd : decode cc pc = .ok (.arraylength, 1)) (hn : pc + 1 = n) (kk : gG X E M n ls (.int (nI N) :: st) Q) : gG X E M pc ls (.ref a :: st) Q := by
  obtain ⟨p, e, R, s, m, args, below, meth, c, cells, slots, A⟩ := X
  intro H locs lsr hP hS hL
  subst hn
  exact va_alen hX.1.1 hX.1.2.1 hX.2.2.2.1 hP a 0 (gws_get hs) rfl rfl hd (kk H locs lsr hP hS hL)
theorem g_least (hX : gOk X E cc own nL f lo) {idx : Nat} (hlink : Cond.fieldLink own idx RX7 "LEAST_SETTINGS" "[I" ∈ gW) (hd : decode cc pc = .ok (.getstatic idx, 3)) (hn : pc + 3 = n) (kk : gG X E M n ls (.ref 134 :: st) Q) : gG X E M pc ls st Q := by
  obtain ⟨p, e, R, s, m, args, below, meth, c, cells, slots, A⟩ := X
  intro H locs lsr hP hS hL
  subst hn
  exact va_gets hX.1.1 hX.1.2.1 hX.2.2.2.2.1 hS hX.1.2.2.2.1 (hX.1.2.2.2.2 _ hlink) (fun _ h => h) hd (kk H locs lsr hP hS hL)
theorem g_least_ld (hX : gOk X E cc own nL f lo) {j : Nat} {i : Int32} (hi : i = nI j) (hj : j < 5) (hd : decode cc pc = .ok (.iaload, 1)) (hn : pc + 1 = n) (kk : gG X E M n ls (.int (gLe j) :: st) Q) : gG X E M pc ls (.int i :: .ref 134 :: st) Q := by
  obtain ⟨p, e, R, s, m, args, below, meth, c, cells, slots, A⟩ := X
  intro H locs lsr hP hS hL
  subst hn
  have hc : i.toNatClampNeg = j := by rw [hi]; exact nI_clamp (by omega)
  exact va_ti hX.1.1 hX.1.2.1 hX.2.2.2.2.2.1 hS (by rw [hi]; exact vp_in_nI (N := 5) hj (by omega)) (v := .int (gLe j)) (by rw [hc]) hd (kk H locs lsr hP hS hL)
theorem g_great (hX : gOk X E cc own nL f lo) {idx : Nat} (hlink : Cond.fieldLink own idx RX7 "GREATEST_SETTINGS" "[I" ∈ gW) (hd : decode cc pc = .ok (.getstatic idx, 3)) (hn : pc + 3 = n) (kk : gG X E M n ls (.ref 135 :: st) Q) : gG X E M pc ls st Q := by
  obtain ⟨p, e, R, s, m, args, below, meth, c, cells, slots, A⟩ := X
  intro H locs lsr hP hS hL
  subst hn
  exact va_gets hX.1.1 hX.1.2.1 hX.2.2.2.2.2.2.1 hS hX.1.2.2.2.1 (hX.1.2.2.2.2 _ hlink) (fun _ h => h) hd (kk H locs lsr hP hS hL)
theorem g_great_ld (hX : gOk X E cc own nL f lo) {j : Nat} {i : Int32} (hi : i = nI j) (hj : j < 5) (hd : decode cc pc = .ok (.iaload, 1)) (hn : pc + 1 = n) (kk : gG X E M n ls (.int (gGr j) :: st) Q) : gG X E M pc ls (.int i :: .ref 135 :: st) Q := by
  obtain ⟨p, e, R, s, m, args, below, meth, c, cells, slots, A⟩ := X
  intro H locs lsr hP hS hL
  subst hn
  have hc : i.toNatClampNeg = j := by rw [hi]; exact nI_clamp (by omega)
  exact va_ti hX.1.1 hX.1.2.1 hX.2.2.2.2.2.2.2.1 hS (by rw [hi]; exact vp_in_nI (N := 5) hj (by omega)) (v := .int (gGr j)) (by rw [hc]) hd (kk H locs lsr hP hS hL)
theorem g_iret (hX : gOk X E cc own nL f lo) (hR : gRt X E (some .int)) {P : Int32 → gM → Prop} {x : Int32} (hd : decode cc pc = .ok (.ireturn, 1)) (h : P x M) : gG X E M pc ls [.int x] (gQ X E (gInt P)) := by
  obtain ⟨p, e, R, s, m, args, below, meth, c, cells, slots, A⟩ := X
  intro H locs lsr hP hS hL
  obtain ⟨hr, rfl, rfl, rfl⟩ := hR
  exact W.iret hX.1.1 hX.1.2.1 hr (fun t ht hW => ⟨⟨some x, M, rfl, ⟨x, rfl, h⟩, by rw [ht]; exact hP⟩, hS.F ht⟩) hS.2.2 hd hX.2.1
theorem g_zret (hX : gOk X E cc own nL f lo) (hR : gRt X E (some .boolean)) {P : Int32 → gM → Prop} {x : Int32} (hx : x = 0 ∨ x = 1) (hd : decode cc pc = .ok (.ireturn, 1)) (h : P x M) : gG X E M pc ls [.int x] (gQ X E (gInt P)) := by
  obtain ⟨p, e, R, s, m, args, below, meth, c, cells, slots, A⟩ := X
  intro H locs lsr hP hS hL
  obtain ⟨hr, rfl, rfl, rfl⟩ := hR
  exact W.zret hX.1.1 hX.1.2.1 hr (by rcases hx with rfl | rfl <;> rfl) (fun t ht hW => ⟨⟨some x, M, rfl, ⟨x, rfl, h⟩, by rw [ht]; exact hP⟩, hS.F ht⟩) hS.2.2 hd hX.2.1
theorem g_cret (hX : gOk X E cc own nL f lo) (hR : gRt X E (some .char)) {P : Int32 → gM → Prop} {x : Int32} (hx : narrow .char (.int x) = .int x) (hd : decode cc pc = .ok (.ireturn, 1)) (h : P x M) : gG X E M pc ls [.int x] (gQ X E (gInt P)) := by
  obtain ⟨p, e, R, s, m, args, below, meth, c, cells, slots, A⟩ := X
  intro H locs lsr hP hS hL
  obtain ⟨hr, rfl, rfl, rfl⟩ := hR
  exact W.zret hX.1.1 hX.1.2.1 hr hx (fun t ht hW => ⟨⟨some x, M, rfl, ⟨x, rfl, h⟩, by rw [ht]; exact hP⟩, hS.F ht⟩) hS.2.2 hd hX.2.1
theorem g_vret (hX : gOk X E cc own nL f lo) (hR : gRt X E none) {P : gM → Prop} (hd : decode cc pc = .ok (.return_, 1)) (h : P M) : gG X E M pc ls [] (gQ X E (gVoid P)) := by
  obtain ⟨p, e, R, s, m, args, below, meth, c, cells, slots, A⟩ := X
  intro H locs lsr hP hS hL
  obtain ⟨hr, rfl, rfl, rfl⟩ := hR
  exact W.vret hX.1.1 hX.1.2.1 hr (fun t ht hW => ⟨⟨none, M, rfl, ⟨rfl, h⟩, by rw [ht]; exact hP⟩, hS.F ht⟩) hS.2.2 hd hX.2.1
def gFact (k : gK) (n : Nat) : Prop := Cond.code k.1 k.2.1 k.2.2.1 k.2.2.2.1 ∈ gW ∧ Cond.initialized k.1.cls ∈ gW ∧ (k.1.cls ≠ "java/lang/invoke/MethodHandle" ∧ k.1.cls ≠ "java/lang/invoke/VarHandle") ∧ (parseMethodDescriptor k.1.desc).map (fun d => d.parameters.length) = some n
def gFactV (k : gK) (n ci : Nat) : Prop := gFact k n ∧ Cond.instanceMethod k.1 ∈ gW ∧ Cond.selects k.1.cls k.1 k.1 ∈ gW ∧ ∃ (T : u_T) (N : Nat), vwCl[ci]? = some (k.1.cls, T, N)
def gFactS (k : gK) (n : Nat) : Prop := gFact k n ∧ Cond.static k.1 ∈ gW
def gRoom (f lo : Nat) (k : gK) : Bool := Nat.ble (k.2.2.2.2.1 + 1) f && Nat.ble (8 + (k.2.2.1 + 11) + k.2.2.2.2.2) lo
theorem gMet.blind {as : List Value} : FrameBlind (gPre E as M) := fun a U g mk ⟨h1, h2, h3⟩ => ⟨h1, h2, h3.blind a g mk⟩
theorem g_cat {l : List Value} (h : l.all (fun v => v.category == 1) = true) : (((l.map (gtr E.2.1)).map fun v => v.category).sum) = l.length := by
  induction l with
  | nil => rfl
  | cons v l ih =>
    simp only [List.all_cons, Bool.and_eq_true, beq_iff_eq] at h
    show (gtr E.2.1 v).category + ((l.map (gtr E.2.1)).map fun v => v.category).sum = l.length + 1
    rw [gtr_cat, h.1, ih h.2]
    omega
theorem g_callB {k : gK} {n : Nat} {p : Program} {m : MethodId} {c : Code} {s : State} {args : Array Value} {R : Room} {idx : Nat} (S : CallFix p m c cc nL s args gW own) (hR : R.frames = f ∧ R.locals = lo) (hF : gFact k n) (hr : gRoom f lo k = true) (hlink : Cond.methodLink own idx k.1 ∈ gW) :
    CallB R s args own idx k.1 k.2.1 k.2.2.1 k.2.2.2.1 (gC k.1 k.2.1 k.2.2.1 k.2.2.2.1) { frames := k.2.2.2.2.1, cells := 0, slots := 0, locals := k.2.2.2.2.2 } 0 0 n := by
  obtain ⟨h1, h2, h3, h4⟩ := hF
  simp only [gRoom, Bool.and_eq_true] at hr
  refine ⟨rfl, rfl, ?_, ?_, pay_in S.2.2.2.2 (gC_goodW h1), List.mem_cons_self, S.2.2.2.2 _ h1, S.2.2.2.2 _ h2, h3, fun sig h => ?_, S.2.2.2.2 _ hlink⟩
  · rw [hR.1]; exact Nat.le_of_ble_eq_true hr.1
  · rw [hR.2]; exact Nat.le_of_ble_eq_true hr.2
  · rw [h] at h4
    simpa using h4.symm
theorem g_run {p : Program} {e : Env} {R : Room} {s : State} {m : MethodId} {args : Array Value} {below : List Frame} {meth : Method} {c : Code} {cells slots : Nat} {A : Nat → Prop} {H : Heap} {locs : List Loc} {lsr : Array Slot} {st0 rest : List Value} {a : Array Value} {post : Option Int32 → gM → Prop} {l : Launch}
    (hr : va_Run p l e R s m args below meth c H locs cells slots 0 0 (F0 m pc lsr st0) rest (gPost E post a) (gA E)) (hS : va_S A s.heap H locs) (hA : ∀ q, gA E q → A q)
    (kk : ∀ (r : Option Int32) (M' : gM) (H1 : Heap) (locs1 : List Loc), post r M' → va_P E.2.2.1 vwCl (gws E M') H1 → va_S A s.heap H1 locs1 → W p l e R s m args below meth c H1 locs1 cells slots Q (F0 m (pc + 3) lsr ((r.map Value.int).toList ++ rest))) : W p l e R s m args below meth c H locs cells slots Q (F0 m pc lsr st0) := by
  intro T hT X
  obtain ⟨v, st₀, t, T', L, h0, X', hL, e1, e2, ⟨⟨r, M', hv, hp, hb⟩, hz, hk⟩, st⟩ := hr T hT X
  cases hv
  rw [h0] at hz hk
  obtain ⟨t2, a1, b1⟩ := kk r M' T'.heap (locs ++ L) hp (by rw [e1]; exact hb)
    ⟨Nat.le_trans hS.1 (by rw [e1]; exact hz), fun q h1 h2 => by rw [e1, hk q (Nat.lt_of_lt_of_le h1 hS.1) (fun z => h2 (hA q z))]; exact hS.2.1 q h1 h2, fun q hq => by
      rcases List.mem_append.mp hq with h | h
      · exact hS.2.2 q h
      · exact hA _ (hL q h)⟩ T' rfl X'
  exact ⟨t2, st t2 a1, b1⟩
theorem g_callV0 (hX : gOk X E cc own nL f lo) {k : gK} {np ci b idx : Nat} {As rest : List Value} {fs : List (Option Nat)} {post : Option Int32 → gM → Prop} (hM : gMet E k (.ref b :: As) M post) (hF : gFactV k np ci) (hr : gRoom f lo k = true) (hlink : Cond.methodLink own idx k.1 ∈ gW) (hs : shp[b]? = some (0, ci, fs)) (hAs : As.length = np) (hst : st = As.reverse ++ .ref b :: rest) (hrest : (rest.all (fun v => v.category == 1) && Nat.ble rest.length 8) = true) (hlen : ls.length = nL) (hd : decode cc pc = .ok (.invokevirtual idx, 3)) (hn : pc + 3 = n)
    (kk : ∀ (r : Option Int32) (M' : gM), post r M' → gG X E M' n ls ((r.map Value.int).toList ++ rest) Q) : gG X E M pc ls st Q := by
  obtain ⟨p, e, R, s, m, args, below, meth, c, cells, slots, A⟩ := X
  intro H locs lsr hP hS hL
  subst hn; subst hst
  obtain ⟨hF0, hi, hse, T, N, hcl⟩ := hF
  simp only [Bool.and_eq_true] at hrest
  have hAA : ∀ q, gA E q → A q := fun q ⟨a, ha, e⟩ => e ▸ hX.2.2.2.2.2.2.2.2.2.2 a ha
  have hrun := va_runV (p := p) (l := E.1) (e := e) (below := below) (meth := meth) (H := H) (locs := locs) (cells := cells) (slots := slots) (C := k.1.cls) (b := E.2.1 b) (As := As.map (gtr E.2.1)) (rest := rest.map (gtr E.2.1)) (g := F0 m pc lsr ((As.reverse ++ .ref b :: rest).map (gtr E.2.1))) hX.1 hM ⟨g_callB hX.1 ⟨hX.2.2.1.1, hX.2.2.1.2.1⟩ hF0 hr hlink, hX.1.2.2.2.2 _ hi, hX.1.2.2.2.2 _ hse⟩
    ⟨gMet.blind, va_recv hX.2.2.2.1 hP hcl (gws_get hs), fun U hU hW => ⟨rfl, by rw [hU]; exact hP, hX.2.2.2.call (locs := locs) (by rw [hU]; exact hS) hW⟩⟩ rfl (by rw [List.length_map]; exact hAs) (by show lsr.size = nL; rw [hL.1, hlen]) (by simp [List.map_reverse, gtr]) (lv_room (by rw [g_cat hrest.1]; exact Nat.le_of_ble_eq_true hrest.2)) hd ⟨hX.2.2.1.2.2.1, hX.2.2.1.2.2.2⟩
  refine g_run hrun hS hAA (fun r M' H1 locs1 hp hP1 hS1 => ?_)
  have h := kk r M' hp H1 locs1 lsr hP1 hS1 hL
  have e : ((r.map Value.int).toList ++ rest).map (gtr E.2.1) = (r.map Value.int).toList ++ rest.map (gtr E.2.1) := by cases r <;> simp [gtr]
  rw [e] at h
  exact h
theorem g_callS0 (hX : gOk X E cc own nL f lo) {k : gK} {np idx : Nat} {As rest : List Value} {post : Option Int32 → gM → Prop} (hM : gMet E k As M post) (hF : gFactS k np) (hr : gRoom f lo k = true) (hlink : Cond.methodLink own idx k.1 ∈ gW) (hAs : As.length = np) (hst : st = As.reverse ++ rest) (hrest : (rest.all (fun v => v.category == 1) && Nat.ble rest.length 8) = true) (hlen : ls.length = nL) (hd : decode cc pc = .ok (.invokestatic idx, 3)) (hn : pc + 3 = n)
    (kk : ∀ (r : Option Int32) (M' : gM), post r M' → gG X E M' n ls ((r.map Value.int).toList ++ rest) Q) : gG X E M pc ls st Q := by
  obtain ⟨p, e, R, s, m, args, below, meth, c, cells, slots, A⟩ := X
  intro H locs lsr hP hS hL
  subst hn; subst hst
  obtain ⟨hF0, hi⟩ := hF
  simp only [Bool.and_eq_true] at hrest
  have hAA : ∀ q, gA E q → A q := fun q ⟨a, ha, e⟩ => e ▸ hX.2.2.2.2.2.2.2.2.2.2 a ha
  have hrun := va_runS (p := p) (l := E.1) (e := e) (below := below) (meth := meth) (H := H) (locs := locs) (cells := cells) (slots := slots) (As := As.map (gtr E.2.1)) (rest := rest.map (gtr E.2.1)) (g := F0 m pc lsr ((As.reverse ++ rest).map (gtr E.2.1))) hX.1 hM ⟨g_callB hX.1 ⟨hX.2.2.1.1, hX.2.2.1.2.1⟩ hF0 hr hlink, hX.1.2.2.2.2 _ hi⟩
    ⟨gMet.blind, fun U hU hW => ⟨rfl, by rw [hU]; exact hP, hX.2.2.2.call (locs := locs) (by rw [hU]; exact hS) hW⟩⟩ rfl (by rw [List.length_map]; exact hAs) (by show lsr.size = nL; rw [hL.1, hlen]) (by simp [List.map_reverse]) (lv_room (by rw [g_cat hrest.1]; exact Nat.le_of_ble_eq_true hrest.2)) hd ⟨hX.2.2.1.2.2.1, hX.2.2.1.2.2.2⟩
  refine g_run hrun hS hAA (fun r M' H1 locs1 hp hP1 hS1 => ?_)
  have h := kk r M' hp H1 locs1 lsr hP1 hS1 hL
  have e : ((r.map Value.int).toList ++ rest).map (gtr E.2.1) = (r.map Value.int).toList ++ rest.map (gtr E.2.1) := by cases r <;> simp [gtr]
  rw [e] at h
  exact h
theorem g_callN0 (hX : gOk X E cc own nL f lo) {k : gK} {np idx : Nat} {host : String} {As rest : List Value} {post : Option Int32 → gM → Prop} (hM : gMet E k As M post) (hF : gFactS k np) (hr : gRoom f lo k = true) (hlink : Cond.methodLinkNest own idx k.1 host ∈ gNest) (hAs : As.length = np) (hst : st = As.reverse ++ rest) (hrest : (rest.all (fun v => v.category == 1) && Nat.ble rest.length 8) = true) (hlen : ls.length = nL) (hd : decode cc pc = .ok (.invokestatic idx, 3)) (hn : pc + 3 = n)
    (kk : ∀ (r : Option Int32) (M' : gM), post r M' → gG X E M' n ls ((r.map Value.int).toList ++ rest) Q) : gG X E M pc ls st Q := by
  obtain ⟨p, e, R, s, m, args, below, meth, c, cells, slots, A⟩ := X
  intro H locs lsr hP hS hL
  subst hn; subst hst
  obtain ⟨⟨h1, h2, h3, h4⟩, hi⟩ := hF
  simp only [Bool.and_eq_true, gRoom] at hrest hr
  have hAA : ∀ q, gA E q → A q := fun q ⟨a, ha, e⟩ => e ▸ hX.2.2.2.2.2.2.2.2.2.2 a ha
  have hrun := va_runSN (p := p) (l := E.1) (e := e) (below := below) (meth := meth) (H := H) (locs := locs) (cells := cells) (slots := slots) (As := As.map (gtr E.2.1)) (rest := rest.map (gtr E.2.1)) (g := F0 m pc lsr ((As.reverse ++ rest).map (gtr E.2.1))) hX.1 hM ⟨va_cnB np hX.1.2.2.2.2 (gC_goodW h1) rfl rfl rfl (hX.2.2.2.2.2.2.2.2.1 _ hlink) (hX.1.2.2.2.2 _ h2) ⟨h3.1, h3.2, h4⟩ ⟨by rw [hX.2.2.1.1]; exact Nat.le_of_ble_eq_true hr.1, by rw [hX.2.2.1.2.1]; exact Nat.le_of_ble_eq_true hr.2⟩, hX.1.2.2.2.2 _ hi, trivial⟩
    ⟨gMet.blind, fun U hU hW => ⟨rfl, by rw [hU]; exact hP, hX.2.2.2.call (locs := locs) (by rw [hU]; exact hS) hW⟩⟩ rfl (by rw [List.length_map]; exact hAs) (by show lsr.size = nL; rw [hL.1, hlen]) (by simp [List.map_reverse]) (lv_room (by rw [g_cat hrest.1]; exact Nat.le_of_ble_eq_true hrest.2)) hd ⟨hX.2.2.1.2.2.1, hX.2.2.1.2.2.2⟩
  refine g_run hrun hS hAA (fun r M' H1 locs1 hp hP1 hS1 => ?_)
  have h := kk r M' hp H1 locs1 lsr hP1 hS1 hL
  have e : ((r.map Value.int).toList ++ rest).map (gtr E.2.1) = (r.map Value.int).toList ++ rest.map (gtr E.2.1) := by cases r <;> simp [gtr]
  rw [e] at h
  exact h
theorem g_callVi (hX : gOk X E cc own nL f lo) {k : gK} {np idx : Nat} {ci b : Nat} {fs : List (Option Nat)} {As rest : List Value} {P : Int32 → gM → Prop} (hM : gMet E k (.ref b :: As) M (gInt P)) (hF : gFactV k np ci) (hr : gRoom f lo k = true) (hlink : Cond.methodLink own idx k.1 ∈ gW) (hs : shp[b]? = some (0, ci, fs)) (hAs : As.length = np) (hst : st = As.reverse ++ .ref b :: rest) (hrest : (rest.all (fun v => v.category == 1) && Nat.ble rest.length 8) = true) (hlen : ls.length = nL) (hd : decode cc pc = .ok (.invokevirtual idx, 3)) (hn : pc + 3 = n) (kk : ∀ (x : Int32) (M' : gM), P x M' → gG X E M' n ls (.int x :: rest) Q) : gG X E M pc ls st Q :=
  g_callV0 hX hM hF hr hlink hs hAs hst hrest hlen hd hn (fun r M' ⟨x, e, h⟩ => by subst e; exact kk x M' h)
theorem g_callVv (hX : gOk X E cc own nL f lo) {k : gK} {np idx : Nat} {ci b : Nat} {fs : List (Option Nat)} {As rest : List Value} {P : gM → Prop} (hM : gMet E k (.ref b :: As) M (gVoid P)) (hF : gFactV k np ci) (hr : gRoom f lo k = true) (hlink : Cond.methodLink own idx k.1 ∈ gW) (hs : shp[b]? = some (0, ci, fs)) (hAs : As.length = np) (hst : st = As.reverse ++ .ref b :: rest) (hrest : (rest.all (fun v => v.category == 1) && Nat.ble rest.length 8) = true) (hlen : ls.length = nL) (hd : decode cc pc = .ok (.invokevirtual idx, 3)) (hn : pc + 3 = n) (kk : ∀ (M' : gM), P M' → gG X E M' n ls rest Q) : gG X E M pc ls st Q :=
  g_callV0 hX hM hF hr hlink hs hAs hst hrest hlen hd hn (fun r M' ⟨e, h⟩ => by subst e; exact kk M' h)
theorem g_callSi (hX : gOk X E cc own nL f lo) {k : gK} {np idx : Nat} {As rest : List Value} {P : Int32 → gM → Prop} (hM : gMet E k As M (gInt P)) (hF : gFactS k np) (hr : gRoom f lo k = true) (hlink : Cond.methodLink own idx k.1 ∈ gW) (hAs : As.length = np) (hst : st = As.reverse ++ rest) (hrest : (rest.all (fun v => v.category == 1) && Nat.ble rest.length 8) = true) (hlen : ls.length = nL) (hd : decode cc pc = .ok (.invokestatic idx, 3)) (hn : pc + 3 = n) (kk : ∀ (x : Int32) (M' : gM), P x M' → gG X E M' n ls (.int x :: rest) Q) : gG X E M pc ls st Q :=
  g_callS0 hX hM hF hr hlink hAs hst hrest hlen hd hn (fun r M' ⟨x, e, h⟩ => by subst e; exact kk x M' h)
theorem g_callSv (hX : gOk X E cc own nL f lo) {k : gK} {np idx : Nat} {As rest : List Value} {P : gM → Prop} (hM : gMet E k As M (gVoid P)) (hF : gFactS k np) (hr : gRoom f lo k = true) (hlink : Cond.methodLink own idx k.1 ∈ gW) (hAs : As.length = np) (hst : st = As.reverse ++ rest) (hrest : (rest.all (fun v => v.category == 1) && Nat.ble rest.length 8) = true) (hlen : ls.length = nL) (hd : decode cc pc = .ok (.invokestatic idx, 3)) (hn : pc + 3 = n) (kk : ∀ (M' : gM), P M' → gG X E M' n ls rest Q) : gG X E M pc ls st Q :=
  g_callS0 hX hM hF hr hlink hAs hst hrest hlen hd hn (fun r M' ⟨e, h⟩ => by subst e; exact kk M' h)
theorem g_callNi (hX : gOk X E cc own nL f lo) {k : gK} {np idx : Nat} {host : String} {As rest : List Value} {P : Int32 → gM → Prop} (hM : gMet E k As M (gInt P)) (hF : gFactS k np) (hr : gRoom f lo k = true) (hlink : Cond.methodLinkNest own idx k.1 host ∈ gNest) (hAs : As.length = np) (hst : st = As.reverse ++ rest) (hrest : (rest.all (fun v => v.category == 1) && Nat.ble rest.length 8) = true) (hlen : ls.length = nL) (hd : decode cc pc = .ok (.invokestatic idx, 3)) (hn : pc + 3 = n) (kk : ∀ (x : Int32) (M' : gM), P x M' → gG X E M' n ls (.int x :: rest) Q) : gG X E M pc ls st Q :=
  g_callN0 hX hM hF hr hlink hAs hst hrest hlen hd hn (fun r M' ⟨x, e, h⟩ => by subst e; exact kk x M' h)
theorem g_callNv (hX : gOk X E cc own nL f lo) {k : gK} {np idx : Nat} {host : String} {As rest : List Value} {P : gM → Prop} (hM : gMet E k As M (gVoid P)) (hF : gFactS k np) (hr : gRoom f lo k = true) (hlink : Cond.methodLinkNest own idx k.1 host ∈ gNest) (hAs : As.length = np) (hst : st = As.reverse ++ rest) (hrest : (rest.all (fun v => v.category == 1) && Nat.ble rest.length 8) = true) (hlen : ls.length = nL) (hd : decode cc pc = .ok (.invokestatic idx, 3)) (hn : pc + 3 = n) (kk : ∀ (M' : gM), P M' → gG X E M' n ls rest Q) : gG X E M pc ls st Q :=
  g_callN0 hX hM hF hr hlink hAs hst hrest hlen hd hn (fun r M' ⟨e, h⟩ => by subst e; exact kk M' h)
end
section
theorem fl_X4_9 : gFl RX4 9 4 0 := ⟨_, _, _, rfl, wu_X4, by decide, wf_X4_9⟩
theorem fl_X5_86 : gFl RX5 86 4 0 := ⟨_, _, _, rfl, wu_X4, by decide, wf_X5_86⟩
theorem fl_X7_88 : gFl RX7 88 4 0 := ⟨_, _, _, rfl, wu_X4, by decide, wf_X7_88⟩
theorem fl_X1_51 : gFl RX1 51 4 0 := ⟨_, _, _, rfl, wu_X4, by decide, wf_X1_51⟩
theorem fl_X4_15 : gFl RX4 15 4 1 := ⟨_, _, _, rfl, wu_X4, by decide, wf_X4_15⟩
theorem fl_X5_72 : gFl RX5 72 4 1 := ⟨_, _, _, rfl, wu_X4, by decide, wf_X5_72⟩
theorem fl_X7_91 : gFl RX7 91 4 1 := ⟨_, _, _, rfl, wu_X4, by decide, wf_X7_91⟩
theorem fl_X4_18 : gFl RX4 18 4 2 := ⟨_, _, _, rfl, wu_X4, by decide, wf_X4_18⟩
theorem fl_X7_100 : gFl RX7 100 4 2 := ⟨_, _, _, rfl, wu_X4, by decide, wf_X7_100⟩
theorem fl_X5_106 : gFl RX5 106 4 2 := ⟨_, _, _, rfl, wu_X4, by decide, wf_X5_106⟩
theorem fl_X4_21 : gFl RX4 21 4 3 := ⟨_, _, _, rfl, wu_X4, by decide, wf_X4_21⟩
theorem fl_X7_112 : gFl RX7 112 4 3 := ⟨_, _, _, rfl, wu_X4, by decide, wf_X7_112⟩
theorem fl_X7_34 : gFl RX7 34 4 4 := ⟨_, _, _, rfl, wu_X4, by decide, wf_X7_34⟩
theorem fp_X7_34 : gFp RX7 34 4 4 .int := ⟨_, _, _, tyX4, rfl, wu_X4, by decide, wf_X7_34, tyX4_ok, nmX4, rfl, by decide +kernel⟩
theorem fl_X4_28 : gFl RX4 28 4 4 := ⟨_, _, _, rfl, wu_X4, by decide, wf_X4_28⟩
theorem fp_X4_28 : gFp RX4 28 4 4 .int := ⟨_, _, _, tyX4, rfl, wu_X4, by decide, wf_X4_28, tyX4_ok, nmX4, rfl, by decide +kernel⟩
theorem fl_X5_75 : gFl RX5 75 4 4 := ⟨_, _, _, rfl, wu_X4, by decide, wf_X5_75⟩
theorem fp_X5_75 : gFp RX5 75 4 4 .int := ⟨_, _, _, tyX4, rfl, wu_X4, by decide, wf_X5_75, tyX4_ok, nmX4, rfl, by decide +kernel⟩
theorem fl_X2_9 : gFl RX2 9 2 0 := ⟨_, _, _, rfl, wu_X2, by decide, wf_X2_9⟩
theorem fl_X7_128 : gFl RX7 128 2 0 := ⟨_, _, _, rfl, wu_X2, by decide, wf_X7_128⟩
theorem fl_X2_15 : gFl RX2 15 2 1 := ⟨_, _, _, rfl, wu_X2, by decide, wf_X2_15⟩
theorem fl_X7_115 : gFl RX7 115 2 1 := ⟨_, _, _, rfl, wu_X2, by decide, wf_X7_115⟩
theorem fl_X5_115 : gFl RX5 115 2 1 := ⟨_, _, _, rfl, wu_X2, by decide, wf_X5_115⟩
theorem fl_X2_18 : gFl RX2 18 2 2 := ⟨_, _, _, rfl, wu_X2, by decide, wf_X2_18⟩
theorem fl_X5_118 : gFl RX5 118 2 2 := ⟨_, _, _, rfl, wu_X2, by decide, wf_X5_118⟩
theorem fl_X2_21 : gFl RX2 21 2 3 := ⟨_, _, _, rfl, wu_X2, by decide, wf_X2_21⟩
theorem fl_X5_170 : gFl RX5 170 2 3 := ⟨_, _, _, rfl, wu_X2, by decide, wf_X5_170⟩
theorem fl_X7_237 : gFl RX7 237 2 3 := ⟨_, _, _, rfl, wu_X2, by decide, wf_X7_237⟩
theorem fl_X2_24 : gFl RX2 24 2 4 := ⟨_, _, _, rfl, wu_X2, by decide, wf_X2_24⟩
theorem fl_X7_121 : gFl RX7 121 2 4 := ⟨_, _, _, rfl, wu_X2, by decide, wf_X7_121⟩
theorem fl_X5_178 : gFl RX5 178 2 4 := ⟨_, _, _, rfl, wu_X2, by decide, wf_X5_178⟩
theorem fl_X2_27 : gFl RX2 27 2 5 := ⟨_, _, _, rfl, wu_X2, by decide, wf_X2_27⟩
theorem fl_X5_181 : gFl RX5 181 2 5 := ⟨_, _, _, rfl, wu_X2, by decide, wf_X5_181⟩
theorem fl_X7_240 : gFl RX7 240 2 5 := ⟨_, _, _, rfl, wu_X2, by decide, wf_X7_240⟩
theorem fl_X2_38 : gFl RX2 38 2 6 := ⟨_, _, _, rfl, wu_X2, by decide, wf_X2_38⟩
theorem fp_X2_38 : gFp RX2 38 2 6 .int := ⟨_, _, _, tyX2, rfl, wu_X2, by decide, wf_X2_38, tyX2_ok, nmX2, rfl, by decide +kernel⟩
theorem fl_X7_70 : gFl RX7 70 2 6 := ⟨_, _, _, rfl, wu_X2, by decide, wf_X7_70⟩
theorem fp_X7_70 : gFp RX7 70 2 6 .int := ⟨_, _, _, tyX2, rfl, wu_X2, by decide, wf_X7_70, tyX2_ok, nmX2, rfl, by decide +kernel⟩
theorem fl_X5_173 : gFl RX5 173 2 6 := ⟨_, _, _, rfl, wu_X2, by decide, wf_X5_173⟩
theorem fp_X5_173 : gFp RX5 173 2 6 .int := ⟨_, _, _, tyX2, rfl, wu_X2, by decide, wf_X5_173, tyX2_ok, nmX2, rfl, by decide +kernel⟩
theorem fl_X2_30 : gFl RX2 30 2 7 := ⟨_, _, _, rfl, wu_X2, by decide, wf_X2_30⟩
theorem fp_X2_30 : gFp RX2 30 2 7 .int := ⟨_, _, _, tyX2, rfl, wu_X2, by decide, wf_X2_30, tyX2_ok, nmX2, rfl, by decide +kernel⟩
theorem fl_X7_130 : gFl RX7 130 2 7 := ⟨_, _, _, rfl, wu_X2, by decide, wf_X7_130⟩
theorem fp_X7_130 : gFp RX7 130 2 7 .int := ⟨_, _, _, tyX2, rfl, wu_X2, by decide, wf_X7_130, tyX2_ok, nmX2, rfl, by decide +kernel⟩
theorem fl_X5_167 : gFl RX5 167 2 7 := ⟨_, _, _, rfl, wu_X2, by decide, wf_X5_167⟩
theorem fp_X5_167 : gFp RX5 167 2 7 .int := ⟨_, _, _, tyX2, rfl, wu_X2, by decide, wf_X5_167, tyX2_ok, nmX2, rfl, by decide +kernel⟩
theorem fl_X0_9 : gFl RX0 9 0 0 := ⟨_, _, _, rfl, wu_X0, by decide, wf_X0_9⟩
theorem fl_X5_121 : gFl RX5 121 0 0 := ⟨_, _, _, rfl, wu_X0, by decide, wf_X5_121⟩
theorem fl_X7_164 : gFl RX7 164 0 0 := ⟨_, _, _, rfl, wu_X0, by decide, wf_X7_164⟩
theorem fl_X0_19 : gFl RX0 19 0 1 := ⟨_, _, _, rfl, wu_X0, by decide, wf_X0_19⟩
theorem fp_X0_19 : gFp RX0 19 0 1 .boolean := ⟨_, _, _, tyX0, rfl, wu_X0, by decide, wf_X0_19, tyX0_ok, nmX0, rfl, by decide +kernel⟩
theorem fl_X5_89 : gFl RX5 89 0 1 := ⟨_, _, _, rfl, wu_X0, by decide, wf_X5_89⟩
theorem fp_X5_89 : gFp RX5 89 0 1 .boolean := ⟨_, _, _, tyX0, rfl, wu_X0, by decide, wf_X5_89, tyX0_ok, nmX0, rfl, by decide +kernel⟩
theorem fl_X7_136 : gFl RX7 136 0 1 := ⟨_, _, _, rfl, wu_X0, by decide, wf_X7_136⟩
theorem fp_X7_136 : gFp RX7 136 0 1 .boolean := ⟨_, _, _, tyX0, rfl, wu_X0, by decide, wf_X7_136, tyX0_ok, nmX0, rfl, by decide +kernel⟩
theorem fl_X0_23 : gFl RX0 23 0 2 := ⟨_, _, _, rfl, wu_X0, by decide, wf_X0_23⟩
theorem fp_X0_23 : gFp RX0 23 0 2 .boolean := ⟨_, _, _, tyX0, rfl, wu_X0, by decide, wf_X0_23, tyX0_ok, nmX0, rfl, by decide +kernel⟩
theorem fl_X5_93 : gFl RX5 93 0 2 := ⟨_, _, _, rfl, wu_X0, by decide, wf_X5_93⟩
theorem fp_X5_93 : gFp RX5 93 0 2 .boolean := ⟨_, _, _, tyX0, rfl, wu_X0, by decide, wf_X5_93, tyX0_ok, nmX0, rfl, by decide +kernel⟩
theorem fl_X0_26 : gFl RX0 26 0 3 := ⟨_, _, _, rfl, wu_X0, by decide, wf_X0_26⟩
theorem fp_X0_26 : gFp RX0 26 0 3 .int := ⟨_, _, _, tyX0, rfl, wu_X0, by decide, wf_X0_26, tyX0_ok, nmX0, rfl, by decide +kernel⟩
theorem fl_X7_56 : gFl RX7 56 0 3 := ⟨_, _, _, rfl, wu_X0, by decide, wf_X7_56⟩
theorem fp_X7_56 : gFp RX7 56 0 3 .int := ⟨_, _, _, tyX0, rfl, wu_X0, by decide, wf_X7_56, tyX0_ok, nmX0, rfl, by decide +kernel⟩
theorem fl_X5_96 : gFl RX5 96 0 3 := ⟨_, _, _, rfl, wu_X0, by decide, wf_X5_96⟩
theorem fp_X5_96 : gFp RX5 96 0 3 .int := ⟨_, _, _, tyX0, rfl, wu_X0, by decide, wf_X5_96, tyX0_ok, nmX0, rfl, by decide +kernel⟩
theorem fl_X0_30 : gFl RX0 30 0 4 := ⟨_, _, _, rfl, wu_X0, by decide, wf_X0_30⟩
theorem fp_X0_30 : gFp RX0 30 0 4 .int := ⟨_, _, _, tyX0, rfl, wu_X0, by decide, wf_X0_30, tyX0_ok, nmX0, rfl, by decide +kernel⟩
theorem fl_X5_99 : gFl RX5 99 0 4 := ⟨_, _, _, rfl, wu_X0, by decide, wf_X5_99⟩
theorem fp_X5_99 : gFp RX5 99 0 4 .int := ⟨_, _, _, tyX0, rfl, wu_X0, by decide, wf_X5_99, tyX0_ok, nmX0, rfl, by decide +kernel⟩
theorem fl_X7_152 : gFl RX7 152 0 4 := ⟨_, _, _, rfl, wu_X0, by decide, wf_X7_152⟩
theorem fp_X7_152 : gFp RX7 152 0 4 .int := ⟨_, _, _, tyX0, rfl, wu_X0, by decide, wf_X7_152, tyX0_ok, nmX0, rfl, by decide +kernel⟩
theorem fl_X1_9 : gFl RX1 9 1 0 := ⟨_, _, _, rfl, wu_X1, by decide, wf_X1_9⟩
theorem fl_X7_182 : gFl RX7 182 1 0 := ⟨_, _, _, rfl, wu_X1, by decide, wf_X7_182⟩
theorem fl_X1_15 : gFl RX1 15 1 1 := ⟨_, _, _, rfl, wu_X1, by decide, wf_X1_15⟩
theorem fl_X5_153 : gFl RX5 153 1 1 := ⟨_, _, _, rfl, wu_X1, by decide, wf_X5_153⟩
theorem fl_X7_185 : gFl RX7 185 1 1 := ⟨_, _, _, rfl, wu_X1, by decide, wf_X7_185⟩
theorem fl_X1_18 : gFl RX1 18 1 2 := ⟨_, _, _, rfl, wu_X1, by decide, wf_X1_18⟩
theorem fl_X7_188 : gFl RX7 188 1 2 := ⟨_, _, _, rfl, wu_X1, by decide, wf_X7_188⟩
theorem fl_X1_21 : gFl RX1 21 1 3 := ⟨_, _, _, rfl, wu_X1, by decide, wf_X1_21⟩
theorem fl_X7_191 : gFl RX7 191 1 3 := ⟨_, _, _, rfl, wu_X1, by decide, wf_X7_191⟩
theorem fl_X1_24 : gFl RX1 24 1 4 := ⟨_, _, _, rfl, wu_X1, by decide, wf_X1_24⟩
theorem fl_X5_187 : gFl RX5 187 1 4 := ⟨_, _, _, rfl, wu_X1, by decide, wf_X5_187⟩
theorem fl_X7_194 : gFl RX7 194 1 4 := ⟨_, _, _, rfl, wu_X1, by decide, wf_X7_194⟩
theorem fl_X1_27 : gFl RX1 27 1 5 := ⟨_, _, _, rfl, wu_X1, by decide, wf_X1_27⟩
theorem fl_X7_200 : gFl RX7 200 1 5 := ⟨_, _, _, rfl, wu_X1, by decide, wf_X7_200⟩
theorem fl_X1_30 : gFl RX1 30 1 6 := ⟨_, _, _, rfl, wu_X1, by decide, wf_X1_30⟩
theorem fl_X7_206 : gFl RX7 206 1 6 := ⟨_, _, _, rfl, wu_X1, by decide, wf_X7_206⟩
theorem fl_X1_33 : gFl RX1 33 1 7 := ⟨_, _, _, rfl, wu_X1, by decide, wf_X1_33⟩
theorem fl_X1_40 : gFl RX1 40 1 8 := ⟨_, _, _, rfl, wu_X1, by decide, wf_X1_40⟩
theorem fp_X1_40 : gFp RX1 40 1 8 .int := ⟨_, _, _, tyX1, rfl, wu_X1, by decide, wf_X1_40, tyX1_ok, nmX1, rfl, by decide +kernel⟩
theorem fl_X5_102 : gFl RX5 102 1 8 := ⟨_, _, _, rfl, wu_X1, by decide, wf_X5_102⟩
theorem fp_X5_102 : gFp RX5 102 1 8 .int := ⟨_, _, _, tyX1, rfl, wu_X1, by decide, wf_X5_102, tyX1_ok, nmX1, rfl, by decide +kernel⟩
theorem fl_X7_140 : gFl RX7 140 1 8 := ⟨_, _, _, rfl, wu_X1, by decide, wf_X7_140⟩
theorem fp_X7_140 : gFp RX7 140 1 8 .int := ⟨_, _, _, tyX1, rfl, wu_X1, by decide, wf_X7_140, tyX1_ok, nmX1, rfl, by decide +kernel⟩
theorem fl_X1_44 : gFl RX1 44 1 9 := ⟨_, _, _, rfl, wu_X1, by decide, wf_X1_44⟩
theorem fp_X1_44 : gFp RX1 44 1 9 .int := ⟨_, _, _, tyX1, rfl, wu_X1, by decide, wf_X1_44, tyX1_ok, nmX1, rfl, by decide +kernel⟩
theorem fl_X5_103 : gFl RX5 103 1 9 := ⟨_, _, _, rfl, wu_X1, by decide, wf_X5_103⟩
theorem fp_X5_103 : gFp RX5 103 1 9 .int := ⟨_, _, _, tyX1, rfl, wu_X1, by decide, wf_X5_103, tyX1_ok, nmX1, rfl, by decide +kernel⟩
theorem fl_X5_12 : gFl RX5 12 5 0 := ⟨_, _, _, rfl, wu_X5, by decide, wf_X5_12⟩
theorem fl_X7_30 : gFl RX7 30 5 0 := ⟨_, _, _, rfl, wu_X5, by decide, wf_X7_30⟩
theorem fl_X5_21 : gFl RX5 21 5 1 := ⟨_, _, _, rfl, wu_X5, by decide, wf_X5_21⟩
theorem fl_X7_61 : gFl RX7 61 5 1 := ⟨_, _, _, rfl, wu_X5, by decide, wf_X7_61⟩
theorem fl_X5_28 : gFl RX5 28 5 2 := ⟨_, _, _, rfl, wu_X5, by decide, wf_X5_28⟩
theorem fl_X7_52 : gFl RX7 52 5 2 := ⟨_, _, _, rfl, wu_X5, by decide, wf_X7_52⟩
theorem fl_X5_35 : gFl RX5 35 5 3 := ⟨_, _, _, rfl, wu_X5, by decide, wf_X5_35⟩
theorem fl_X7_103 : gFl RX7 103 5 3 := ⟨_, _, _, rfl, wu_X5, by decide, wf_X7_103⟩
theorem fl_X5_48 : gFl RX5 48 5 4 := ⟨_, _, _, rfl, wu_X5, by decide, wf_X5_48⟩
theorem fl_X7_82 : gFl RX7 82 5 4 := ⟨_, _, _, rfl, wu_X5, by decide, wf_X7_82⟩
theorem fl_X5_68 : gFl RX5 68 5 5 := ⟨_, _, _, rfl, wu_X5, by decide, wf_X5_68⟩
theorem fp_X5_68 : gFp RX5 68 5 5 .int := ⟨_, _, _, tyX5, rfl, wu_X5, by decide, wf_X5_68, tyX5_ok, nmX5, rfl, by decide +kernel⟩
theorem fl_X7_133 : gFl RX7 133 5 5 := ⟨_, _, _, rfl, wu_X5, by decide, wf_X7_133⟩
theorem fp_X7_133 : gFp RX7 133 5 5 .int := ⟨_, _, _, tyX5, rfl, wu_X5, by decide, wf_X7_133, tyX5_ok, nmX5, rfl, by decide +kernel⟩
theorem fl_X3_11 : gFl RX3 11 3 0 := ⟨_, _, _, rfl, wu_X3, by decide, wf_X3_11⟩
theorem fl_X3_18 : gFl RX3 18 3 1 := ⟨_, _, _, rfl, wu_X3, by decide, wf_X3_18⟩
theorem fp_X3_18 : gFp RX3 18 3 1 .int := ⟨_, _, _, tyX3, rfl, wu_X3, by decide, wf_X3_18, tyX3_ok, nmX3, rfl, by decide +kernel⟩
theorem fl_X3_22 : gFl RX3 22 3 2 := ⟨_, _, _, rfl, wu_X3, by decide, wf_X3_22⟩
theorem fp_X3_22 : gFp RX3 22 3 2 .int := ⟨_, _, _, tyX3, rfl, wu_X3, by decide, wf_X3_22, tyX3_ok, nmX3, rfl, by decide +kernel⟩
theorem fl_X7_148 : gFl RX7 148 3 2 := ⟨_, _, _, rfl, wu_X3, by decide, wf_X7_148⟩
theorem fp_X7_148 : gFp RX7 148 3 2 .int := ⟨_, _, _, tyX3, rfl, wu_X3, by decide, wf_X7_148, tyX3_ok, nmX3, rfl, by decide +kernel⟩
theorem fl_X6_9 : gFl RX6 9 6 0 := ⟨_, _, _, rfl, wu_X6, by decide, wf_X6_9⟩
theorem fl_X6_15 : gFl RX6 15 6 1 := ⟨_, _, _, rfl, wu_X6, by decide, wf_X6_15⟩
theorem fp_X6_15 : gFp RX6 15 6 1 .int := ⟨_, _, _, tyX6, rfl, wu_X6, by decide, wf_X6_15, tyX6_ok, nmX6, rfl, by decide +kernel⟩
theorem fl_X7_149 : gFl RX7 149 6 1 := ⟨_, _, _, rfl, wu_X6, by decide, wf_X7_149⟩
theorem fp_X7_149 : gFp RX7 149 6 1 .int := ⟨_, _, _, tyX6, rfl, wu_X6, by decide, wf_X7_149, tyX6_ok, nmX6, rfl, by decide +kernel⟩
theorem fl_X6_19 : gFl RX6 19 6 2 := ⟨_, _, _, rfl, wu_X6, by decide, wf_X6_19⟩
theorem fp_X6_19 : gFp RX6 19 6 2 .int := ⟨_, _, _, tyX6, rfl, wu_X6, by decide, wf_X6_19, tyX6_ok, nmX6, rfl, by decide +kernel⟩
theorem fl_X7_252 : gFl RX7 252 6 2 := ⟨_, _, _, rfl, wu_X6, by decide, wf_X7_252⟩
theorem fp_X7_252 : gFp RX7 252 6 2 .int := ⟨_, _, _, tyX6, rfl, wu_X6, by decide, wf_X7_252, tyX6_ok, nmX6, rfl, by decide +kernel⟩
theorem fl_X6_22 : gFl RX6 22 6 3 := ⟨_, _, _, rfl, wu_X6, by decide, wf_X6_22⟩
theorem fp_X6_22 : gFp RX6 22 6 3 .int := ⟨_, _, _, tyX6, rfl, wu_X6, by decide, wf_X6_22, tyX6_ok, nmX6, rfl, by decide +kernel⟩
theorem fl_X6_32 : gFl RX6 32 6 4 := ⟨_, _, _, rfl, wu_X6, by decide, wf_X6_32⟩
theorem fp_X6_32 : gFp RX6 32 6 4 .int := ⟨_, _, _, tyX6, rfl, wu_X6, by decide, wf_X6_32, tyX6_ok, nmX6, rfl, by decide +kernel⟩
theorem fl_X7_262 : gFl RX7 262 6 4 := ⟨_, _, _, rfl, wu_X6, by decide, wf_X7_262⟩
theorem fp_X7_262 : gFp RX7 262 6 4 .int := ⟨_, _, _, tyX6, rfl, wu_X6, by decide, wf_X7_262, tyX6_ok, nmX6, rfl, by decide +kernel⟩
theorem fl_X6_39 : gFl RX6 39 6 5 := ⟨_, _, _, rfl, wu_X6, by decide, wf_X6_39⟩
theorem fp_X6_39 : gFp RX6 39 6 5 .int := ⟨_, _, _, tyX6, rfl, wu_X6, by decide, wf_X6_39, tyX6_ok, nmX6, rfl, by decide +kernel⟩
theorem fl_X7_265 : gFl RX7 265 6 5 := ⟨_, _, _, rfl, wu_X6, by decide, wf_X7_265⟩
theorem fp_X7_265 : gFp RX7 265 6 5 .int := ⟨_, _, _, tyX6, rfl, wu_X6, by decide, wf_X7_265, tyX6_ok, nmX6, rfl, by decide +kernel⟩
theorem fl_X6_42 : gFl RX6 42 6 6 := ⟨_, _, _, rfl, wu_X6, by decide, wf_X6_42⟩
theorem fp_X6_42 : gFp RX6 42 6 6 .int := ⟨_, _, _, tyX6, rfl, wu_X6, by decide, wf_X6_42, tyX6_ok, nmX6, rfl, by decide +kernel⟩
theorem fl_X7_267 : gFl RX7 267 6 6 := ⟨_, _, _, rfl, wu_X6, by decide, wf_X7_267⟩
theorem fp_X7_267 : gFp RX7 267 6 6 .int := ⟨_, _, _, tyX6, rfl, wu_X6, by decide, wf_X7_267, tyX6_ok, nmX6, rfl, by decide +kernel⟩
theorem fl_X7_10 : gFl RX7 10 7 0 := ⟨_, _, _, rfl, wu_X7, by decide, wf_X7_10⟩
theorem fl_X7_19 : gFl RX7 19 7 1 := ⟨_, _, _, rfl, wu_X7, by decide, wf_X7_19⟩
theorem fl_X7_26 : gFl RX7 26 7 2 := ⟨_, _, _, rfl, wu_X7, by decide, wf_X7_26⟩
theorem fl_X8_7 : gFl RX8 7 8 0 := ⟨_, _, _, rfl, wu_X8, by decide, wf_X8_7⟩
theorem fl_X8_13 : gFl RX8 13 8 1 := ⟨_, _, _, rfl, wu_X8, by decide, wf_X8_13⟩
theorem fl_X8_19 : gFl RX8 19 8 2 := ⟨_, _, _, rfl, wu_X8, by decide, wf_X8_19⟩
theorem fp_X8_19 : gFp RX8 19 8 2 .int := ⟨_, _, _, tyX8, rfl, wu_X8, by decide, wf_X8_19, tyX8_ok, nmX8, rfl, by decide +kernel⟩
theorem fl_X8_16 : gFl RX8 16 8 3 := ⟨_, _, _, rfl, wu_X8, by decide, wf_X8_16⟩
theorem fl_X8_70 : gFl RX8 70 8 4 := ⟨_, _, _, rfl, wu_X8, by decide, wf_X8_70⟩
theorem fp_X8_70 : gFp RX8 70 8 4 .int := ⟨_, _, _, tyX8, rfl, wu_X8, by decide, wf_X8_70, tyX8_ok, nmX8, rfl, by decide +kernel⟩
theorem fl_X8_117 : gFl RX8 117 8 5 := ⟨_, _, _, rfl, wu_X8, by decide, wf_X8_117⟩
theorem fp_X8_117 : gFp RX8 117 8 5 .int := ⟨_, _, _, tyX8, rfl, wu_X8, by decide, wf_X8_117, tyX8_ok, nmX8, rfl, by decide +kernel⟩
theorem fl_X8_126 : gFl RX8 126 8 6 := ⟨_, _, _, rfl, wu_X8, by decide, wf_X8_126⟩
theorem fp_X8_126 : gFp RX8 126 8 6 .int := ⟨_, _, _, tyX8, rfl, wu_X8, by decide, wf_X8_126, tyX8_ok, nmX8, rfl, by decide +kernel⟩
theorem fl_X8_129 : gFl RX8 129 8 7 := ⟨_, _, _, rfl, wu_X8, by decide, wf_X8_129⟩
theorem fp_X8_129 : gFp RX8 129 8 7 .int := ⟨_, _, _, tyX8, rfl, wu_X8, by decide, wf_X8_129, tyX8_ok, nmX8, rfl, by decide +kernel⟩
theorem fl_X8_135 : gFl RX8 135 8 8 := ⟨_, _, _, rfl, wu_X8, by decide, wf_X8_135⟩
theorem fp_X8_135 : gFp RX8 135 8 8 .int := ⟨_, _, _, tyX8, rfl, wu_X8, by decide, wf_X8_135, tyX8_ok, nmX8, rfl, by decide +kernel⟩
theorem fl_X8_144 : gFl RX8 144 8 9 := ⟨_, _, _, rfl, wu_X8, by decide, wf_X8_144⟩
theorem fp_X8_144 : gFp RX8 144 8 9 .int := ⟨_, _, _, tyX8, rfl, wu_X8, by decide, wf_X8_144, tyX8_ok, nmX8, rfl, by decide +kernel⟩
theorem fl_X8_147 : gFl RX8 147 8 10 := ⟨_, _, _, rfl, wu_X8, by decide, wf_X8_147⟩
theorem fp_X8_147 : gFp RX8 147 8 10 .int := ⟨_, _, _, tyX8, rfl, wu_X8, by decide, wf_X8_147, tyX8_ok, nmX8, rfl, by decide +kernel⟩
theorem fl_X8_138 : gFl RX8 138 8 11 := ⟨_, _, _, rfl, wu_X8, by decide, wf_X8_138⟩
theorem fp_X8_138 : gFp RX8 138 8 11 .int := ⟨_, _, _, tyX8, rfl, wu_X8, by decide, wf_X8_138, tyX8_ok, nmX8, rfl, by decide +kernel⟩
abbrev k_X7_init : gK := (yX7_init, cX7_init, 1, none, 4, 90)
abbrev k_X5_init : gK := (yX5_init, cX5_init, 1, none, 2, 49)
abbrev k_X4_init : gK := (yX4_init, cX4_init, 1, none, 1, 29)
abbrev k_X2_init : gK := (yX2_init, cX2_init, 1, none, 1, 29)
abbrev k_X0_init : gK := (yX0_init, cX0_init, 1, none, 1, 29)
abbrev k_X1_init : gK := (yX1_init, cX1_init, 1, none, 1, 29)
abbrev k_X3_init : gK := (yX3_init, cX3_init, 2, none, 3, 69)
abbrev k_X6_init : gK := (yX6_init, cX6_init, 1, none, 1, 29)
abbrev k_X7_addMember : gK := (yX7_addMember, cX7_addMember, 2, (some .int), 5, 113)
theorem kf_X7_addMember : gFactV k_X7_addMember 1 7 := ⟨⟨wc_X7_addMember, wi_X7, ⟨by decide, by decide⟩, by decide +kernel⟩, wm_X7_addMember, wl_X7_addMember, _, _, rfl⟩
abbrev k_X3_keep : gK := (yX3_keep, cX3_keep, 2, none, 4, 92)
theorem kf_X3_keep : gFactV k_X3_keep 1 3 := ⟨⟨wc_X3_keep, wi_X3, ⟨by decide, by decide⟩, by decide +kernel⟩, wm_X3_keep, wl_X3_keep, _, _, rfl⟩
abbrev k_X5_copyFrom : gK := (yX5_copyFrom, cX5_copyFrom, 2, none, 3, 71)
theorem kf_X5_copyFrom : gFactV k_X5_copyFrom 1 5 := ⟨⟨wc_X5_copyFrom, wi_X5, ⟨by decide, by decide⟩, by decide +kernel⟩, wm_X5_copyFrom, wl_X5_copyFrom, _, _, rfl⟩
abbrev k_X4_copyFrom : gK := (yX4_copyFrom, cX4_copyFrom, 2, none, 2, 50)
theorem kf_X4_copyFrom : gFactV k_X4_copyFrom 1 4 := ⟨⟨wc_X4_copyFrom, wi_X4, ⟨by decide, by decide⟩, by decide +kernel⟩, wm_X4_copyFrom, wl_X4_copyFrom, _, _, rfl⟩
abbrev k_X7_copyAll : gK := (yX7_copyAll, cX7_copyAll, 2, none, 1, 29)
theorem kf_X7_copyAll : gFactS k_X7_copyAll 2 := ⟨⟨wc_X7_copyAll, wi_X7, ⟨by decide, by decide⟩, by decide +kernel⟩, ws_X7_copyAll⟩
abbrev k_J9_min_7cf53 : gK := (yJ9_min_7cf53, cJ9_min_7cf53, 2, (some .int), 0, 0)
theorem kf_J9_min_7cf53 : gFactS k_J9_min_7cf53 2 := ⟨⟨wc_J9_min_7cf53, wi_J9, ⟨by decide, by decide⟩, by decide +kernel⟩, ws_J9_min_7cf53⟩
abbrev k_X2_copyFrom : gK := (yX2_copyFrom, cX2_copyFrom, 2, none, 2, 50)
theorem kf_X2_copyFrom : gFactV k_X2_copyFrom 1 2 := ⟨⟨wc_X2_copyFrom, wi_X2, ⟨by decide, by decide⟩, by decide +kernel⟩, wm_X2_copyFrom, wl_X2_copyFrom, _, _, rfl⟩
abbrev k_X0_copyFrom : gK := (yX0_copyFrom, cX0_copyFrom, 2, none, 2, 50)
theorem kf_X0_copyFrom : gFactV k_X0_copyFrom 1 0 := ⟨⟨wc_X0_copyFrom, wi_X0, ⟨by decide, by decide⟩, by decide +kernel⟩, wm_X0_copyFrom, wl_X0_copyFrom, _, _, rfl⟩
abbrev k_X1_copyFrom : gK := (yX1_copyFrom, cX1_copyFrom, 2, none, 2, 50)
theorem kf_X1_copyFrom : gFactV k_X1_copyFrom 1 1 := ⟨⟨wc_X1_copyFrom, wi_X1, ⟨by decide, by decide⟩, by decide +kernel⟩, wm_X1_copyFrom, wl_X1_copyFrom, _, _, rfl⟩
abbrev k_X4_append : gK := (yX4_append, cX4_append, 2, (some .int), 0, 0)
theorem kf_X4_append : gFactV k_X4_append 1 4 := ⟨⟨wc_X4_append, wi_X4, ⟨by decide, by decide⟩, by decide +kernel⟩, wm_X4_append, wl_X4_append, _, _, rfl⟩
abbrev k_X7_addClause : gK := (yX7_addClause, cX7_addClause, 3, (some .int), 5, 113)
theorem kf_X7_addClause : gFactV k_X7_addClause 2 7 := ⟨⟨wc_X7_addClause, wi_X7, ⟨by decide, by decide⟩, by decide +kernel⟩, wm_X7_addClause, wl_X7_addClause, _, _, rfl⟩
abbrev k_X7_isValue : gK := (yX7_isValue, cX7_isValue, 1, (some .boolean), 0, 0)
theorem kf_X7_isValue : gFactS k_X7_isValue 1 := ⟨⟨wc_X7_isValue, wi_X7, ⟨by decide, by decide⟩, by decide +kernel⟩, ws_X7_isValue⟩
abbrev k_X2_find : gK := (yX2_find, cX2_find, 3, (some .int), 0, 0)
theorem kf_X2_find : gFactV k_X2_find 1 2 := ⟨⟨wc_X2_find, wi_X2, ⟨by decide, by decide⟩, by decide +kernel⟩, wm_X2_find, wl_X2_find, _, _, rfl⟩
abbrev k_X2_insert : gK := (yX2_insert, cX2_insert, 4, none, 1, 21)
theorem kf_X2_insert : gFactV k_X2_insert 2 2 := ⟨⟨wc_X2_insert, wi_X2, ⟨by decide, by decide⟩, by decide +kernel⟩, wm_X2_insert, wl_X2_insert, _, _, rfl⟩
abbrev k_X2_slot : gK := (yX2_slot, cX2_slot, 2, (some .int), 0, 0)
theorem kf_X2_slot : gFactS k_X2_slot 2 := ⟨⟨wc_X2_slot, wi_X2, ⟨by decide, by decide⟩, by decide +kernel⟩, ws_X2_slot⟩
abbrev k_X7_set : gK := (yX7_set, cX7_set, 4, (some .int), 5, 113)
theorem kf_X7_set : gFactV k_X7_set 2 7 := ⟨⟨wc_X7_set, wi_X7, ⟨by decide, by decide⟩, by decide +kernel⟩, wm_X7_set, wl_X7_set, _, _, rfl⟩
abbrev k_X7_member : gK := (yX7_member, cX7_member, 3, (some .int), 1, 23)
theorem kf_X7_member : gFactV k_X7_member 2 7 := ⟨⟨wc_X7_member, wi_X7, ⟨by decide, by decide⟩, by decide +kernel⟩, wm_X7_member, wl_X7_member, _, _, rfl⟩
abbrev k_X4_has : gK := (yX4_has, cX4_has, 2, (some .boolean), 0, 0)
theorem kf_X4_has : gFactV k_X4_has 1 4 := ⟨⟨wc_X4_has, wi_X4, ⟨by decide, by decide⟩, by decide +kernel⟩, wm_X4_has, wl_X4_has, _, _, rfl⟩
abbrev k_X5_isLapsed : gK := (yX5_isLapsed, cX5_isLapsed, 2, (some .boolean), 0, 0)
theorem kf_X5_isLapsed : gFactV k_X5_isLapsed 1 5 := ⟨⟨wc_X5_isLapsed, wi_X5, ⟨by decide, by decide⟩, by decide +kernel⟩, wm_X5_isLapsed, wl_X5_isLapsed, _, _, rfl⟩
abbrev k_X4_hasVoted : gK := (yX4_hasVoted, cX4_hasVoted, 2, (some .boolean), 0, 0)
theorem kf_X4_hasVoted : gFactV k_X4_hasVoted 1 4 := ⟨⟨wc_X4_hasVoted, wi_X4, ⟨by decide, by decide⟩, by decide +kernel⟩, wm_X4_hasVoted, wl_X4_hasVoted, _, _, rfl⟩
abbrev k_X1_numberOf : gK := (yX1_numberOf, cX1_numberOf, 4, (some .int), 0, 0)
theorem kf_X1_numberOf : gFactV k_X1_numberOf 1 1 := ⟨⟨wc_X1_numberOf, wi_X1, ⟨by decide, by decide⟩, by decide +kernel⟩, wm_X1_numberOf, wl_X1_numberOf, _, _, rfl⟩
abbrev k_X7_value : gK := (yX7_value, cX7_value, 3, (some .int), 1, 22)
theorem kf_X7_value : gFactV k_X7_value 1 7 := ⟨⟨wc_X7_value, wi_X7, ⟨by decide, by decide⟩, by decide +kernel⟩, wm_X7_value, wl_X7_value, _, _, rfl⟩
abbrev k_X7_valueIn : gK := (yX7_valueIn, cX7_valueIn, 4, (some .int), 1, 22)
theorem kf_X7_valueIn : gFactV k_X7_valueIn 2 7 := ⟨⟨wc_X7_valueIn, wi_X7, ⟨by decide, by decide⟩, by decide +kernel⟩, wm_X7_valueIn, wl_X7_valueIn, _, _, rfl⟩
abbrev k_X2_hasEdition : gK := (yX2_hasEdition, cX2_hasEdition, 2, (some .boolean), 0, 0)
theorem kf_X2_hasEdition : gFactV k_X2_hasEdition 1 2 := ⟨⟨wc_X2_hasEdition, wi_X2, ⟨by decide, by decide⟩, by decide +kernel⟩, wm_X2_hasEdition, wl_X2_hasEdition, _, _, rfl⟩
abbrev k_X7_clause : gK := (yX7_clause, cX7_clause, 2, (some .int), 0, 0)
theorem kf_X7_clause : gFactV k_X7_clause 1 7 := ⟨⟨wc_X7_clause, wi_X7, ⟨by decide, by decide⟩, by decide +kernel⟩, wm_X7_clause, wl_X7_clause, _, _, rfl⟩
abbrev k_X7_count : gK := (yX7_count, cX7_count, 2, (some .int), 3, 64)
theorem kf_X7_count : gFactV k_X7_count 1 7 := ⟨⟨wc_X7_count, wi_X7, ⟨by decide, by decide⟩, by decide +kernel⟩, wm_X7_count, wl_X7_count, _, _, rfl⟩
abbrev k_X1_pending : gK := (yX1_pending, cX1_pending, 3, (some .int), 0, 0)
theorem kf_X1_pending : gFactV k_X1_pending 0 1 := ⟨⟨wc_X1_pending, wi_X1, ⟨by decide, by decide⟩, by decide +kernel⟩, wm_X1_pending, wl_X1_pending, _, _, rfl⟩
abbrev k_X5_activeWeight : gK := (yX5_activeWeight, cX5_activeWeight, 1, (some .int), 2, 44)
theorem kf_X5_activeWeight : gFactV k_X5_activeWeight 0 5 := ⟨⟨wc_X5_activeWeight, wi_X5, ⟨by decide, by decide⟩, by decide +kernel⟩, wm_X5_activeWeight, wl_X5_activeWeight, _, _, rfl⟩
abbrev k_X5_activeWeightIn : gK := (yX5_activeWeightIn, cX5_activeWeightIn, 4, (some .int), 1, 21)
theorem kf_X5_activeWeightIn : gFactV k_X5_activeWeightIn 1 5 := ⟨⟨wc_X5_activeWeightIn, wi_X5, ⟨by decide, by decide⟩, by decide +kernel⟩, wm_X5_activeWeightIn, wl_X5_activeWeightIn, _, _, rfl⟩
abbrev k_X7_open : gK := (yX7_open, cX7_open, 1, (some .int), 5, 113)
theorem kf_X7_open : gFactV k_X7_open 0 7 := ⟨⟨wc_X7_open, wi_X7, ⟨by decide, by decide⟩, by decide +kernel⟩, wm_X7_open, wl_X7_open, _, _, rfl⟩
abbrev k_X5_openBallot : gK := (yX5_openBallot, cX5_openBallot, 1, none, 2, 50)
theorem kf_X5_openBallot : gFactV k_X5_openBallot 0 5 := ⟨⟨wc_X5_openBallot, wi_X5, ⟨by decide, by decide⟩, by decide +kernel⟩, wm_X5_openBallot, wl_X5_openBallot, _, _, rfl⟩
abbrev k_J7_fill_53178 : gK := (yJ7_fill_53178, cJ7_fill_53178, 4, none, 0, 0)
theorem kf_J7_fill_53178 : gFactS k_J7_fill_53178 2 := ⟨⟨wc_J7_fill_53178, wi_J7, ⟨by decide, by decide⟩, by decide +kernel⟩, ws_J7_fill_53178⟩
abbrev k_X7_vote : gK := (yX7_vote, cX7_vote, 3, (some .int), 5, 113)
theorem kf_X7_vote : gFactV k_X7_vote 2 7 := ⟨⟨wc_X7_vote, wi_X7, ⟨by decide, by decide⟩, by decide +kernel⟩, wm_X7_vote, wl_X7_vote, _, _, rfl⟩
abbrev k_X4_voters : gK := (yX4_voters, cX4_voters, 3, (some .int), 1, 21)
theorem kf_X4_voters : gFactV k_X4_voters 0 4 := ⟨⟨wc_X4_voters, wi_X4, ⟨by decide, by decide⟩, by decide +kernel⟩, wm_X4_voters, wl_X4_voters, _, _, rfl⟩
abbrev k_X7_pass : gK := (yX7_pass, cX7_pass, 2, (some .int), 5, 113)
theorem kf_X7_pass : gFactV k_X7_pass 1 7 := ⟨⟨wc_X7_pass, wi_X7, ⟨by decide, by decide⟩, by decide +kernel⟩, wm_X7_pass, wl_X7_pass, _, _, rfl⟩
abbrev k_X5_endBallot : gK := (yX5_endBallot, cX5_endBallot, 1, none, 3, 66)
theorem kf_X5_endBallot : gFactV k_X5_endBallot 0 5 := ⟨⟨wc_X5_endBallot, wi_X5, ⟨by decide, by decide⟩, by decide +kernel⟩, wm_X5_endBallot, wl_X5_endBallot, _, _, rfl⟩
abbrev k_X5_countVotes : gK := (yX5_countVotes, cX5_countVotes, 3, none, 2, 44)
theorem kf_X5_countVotes : gFactV k_X5_countVotes 0 5 := ⟨⟨wc_X5_countVotes, wi_X5, ⟨by decide, by decide⟩, by decide +kernel⟩, wm_X5_countVotes, wl_X5_countVotes, _, _, rfl⟩
abbrev k_X5_sumFor : gK := (yX5_sumFor, cX5_sumFor, 3, (some .int), 1, 22)
theorem kf_X5_sumFor : gFactV k_X5_sumFor 1 5 := ⟨⟨wc_X5_sumFor, wi_X5, ⟨by decide, by decide⟩, by decide +kernel⟩, wm_X5_sumFor, wl_X5_sumFor, _, _, rfl⟩
abbrev k_X1_hasTechnicalOf : gK := (yX1_hasTechnicalOf, cX1_hasTechnicalOf, 3, (some .boolean), 0, 0)
theorem kf_X1_hasTechnicalOf : gFactV k_X1_hasTechnicalOf 1 1 := ⟨⟨wc_X1_hasTechnicalOf, wi_X1, ⟨by decide, by decide⟩, by decide +kernel⟩, wm_X1_hasTechnicalOf, wl_X1_hasTechnicalOf, _, _, rfl⟩
abbrev k_X5_isCarriedBy : gK := (yX5_isCarriedBy, cX5_isCarriedBy, 3, (some .boolean), 0, 0)
theorem kf_X5_isCarriedBy : gFactV k_X5_isCarriedBy 1 5 := ⟨⟨wc_X5_isCarriedBy, wi_X5, ⟨by decide, by decide⟩, by decide +kernel⟩, wm_X5_isCarriedBy, wl_X5_isCarriedBy, _, _, rfl⟩
abbrev k_X4_noteMisses : gK := (yX4_noteMisses, cX4_noteMisses, 2, none, 1, 21)
theorem kf_X4_noteMisses : gFactV k_X4_noteMisses 0 4 := ⟨⟨wc_X4_noteMisses, wi_X4, ⟨by decide, by decide⟩, by decide +kernel⟩, wm_X4_noteMisses, wl_X4_noteMisses, _, _, rfl⟩
abbrev k_X1_makeAllPending : gK := (yX1_makeAllPending, cX1_makeAllPending, 2, none, 0, 0)
theorem kf_X1_makeAllPending : gFactV k_X1_makeAllPending 0 1 := ⟨⟨wc_X1_makeAllPending, wi_X1, ⟨by decide, by decide⟩, by decide +kernel⟩, wm_X1_makeAllPending, wl_X1_makeAllPending, _, _, rfl⟩
abbrev k_X7_tally : gK := (yX7_tally, cX7_tally, 2, (some .int), 3, 66)
theorem kf_X7_tally : gFactV k_X7_tally 1 7 := ⟨⟨wc_X7_tally, wi_X7, ⟨by decide, by decide⟩, by decide +kernel⟩, wm_X7_tally, wl_X7_tally, _, _, rfl⟩
abbrev k_X7_lacking : gK := (yX7_lacking, cX7_lacking, 6, (some .int), 3, 66)
theorem kf_X7_lacking : gFactV k_X7_lacking 0 7 := ⟨⟨wc_X7_lacking, wi_X7, ⟨by decide, by decide⟩, by decide +kernel⟩, wm_X7_lacking, wl_X7_lacking, _, _, rfl⟩
abbrev k_X7_dividedUp : gK := (yX7_dividedUp, cX7_dividedUp, 2, (some .int), 0, 0)
theorem kf_X7_dividedUp : gFactS k_X7_dividedUp 2 := ⟨⟨wc_X7_dividedUp, wi_X7, ⟨by decide, by decide⟩, by decide +kernel⟩, ws_X7_dividedUp⟩
abbrev k_J9_max_7cf53 : gK := (yJ9_max_7cf53, cJ9_max_7cf53, 2, (some .int), 0, 0)
theorem kf_J9_max_7cf53 : gFactS k_J9_max_7cf53 2 := ⟨⟨wc_J9_max_7cf53, wi_J9, ⟨by decide, by decide⟩, by decide +kernel⟩, ws_J9_max_7cf53⟩
abbrev k_X7_comment : gK := (yX7_comment, cX7_comment, 6, (some .int), 5, 113)
theorem kf_X7_comment : gFactV k_X7_comment 4 7 := ⟨⟨wc_X7_comment, wi_X7, ⟨by decide, by decide⟩, by decide +kernel⟩, wm_X7_comment, wl_X7_comment, _, _, rfl⟩
abbrev k_X1_append : gK := (yX1_append, cX1_append, 5, (some .int), 0, 0)
theorem kf_X1_append : gFactV k_X1_append 4 1 := ⟨⟨wc_X1_append, wi_X1, ⟨by decide, by decide⟩, by decide +kernel⟩, wm_X1_append, wl_X1_append, _, _, rfl⟩
abbrev k_X7_told : gK := (yX7_told, cX7_told, 3, (some .int), 1, 21)
theorem kf_X7_told : gFactV k_X7_told 2 7 := ⟨⟨wc_X7_told, wi_X7, ⟨by decide, by decide⟩, by decide +kernel⟩, wm_X7_told, wl_X7_told, _, _, rfl⟩
abbrev k_X1_has : gK := (yX1_has, cX1_has, 2, (some .boolean), 0, 0)
theorem kf_X1_has : gFactV k_X1_has 1 1 := ⟨⟨wc_X1_has, wi_X1, ⟨by decide, by decide⟩, by decide +kernel⟩, wm_X1_has, wl_X1_has, _, _, rfl⟩
abbrev k_X1_isResolved : gK := (yX1_isResolved, cX1_isResolved, 2, (some .boolean), 0, 0)
theorem kf_X1_isResolved : gFactV k_X1_isResolved 1 1 := ⟨⟨wc_X1_isResolved, wi_X1, ⟨by decide, by decide⟩, by decide +kernel⟩, wm_X1_isResolved, wl_X1_isResolved, _, _, rfl⟩
abbrev k_X1_gaveValue : gK := (yX1_gaveValue, cX1_gaveValue, 2, (some .boolean), 0, 0)
theorem kf_X1_gaveValue : gFactV k_X1_gaveValue 1 1 := ⟨⟨wc_X1_gaveValue, wi_X1, ⟨by decide, by decide⟩, by decide +kernel⟩, wm_X1_gaveValue, wl_X1_gaveValue, _, _, rfl⟩
abbrev k_X7_next : gK := (yX7_next, cX7_next, 2, (some .int), 2, 46)
theorem kf_X7_next : gFactV k_X7_next 0 7 := ⟨⟨wc_X7_next, wi_X7, ⟨by decide, by decide⟩, by decide +kernel⟩, wm_X7_next, wl_X7_next, _, _, rfl⟩
abbrev k_X1_firstPending : gK := (yX1_firstPending, cX1_firstPending, 4, (some .int), 1, 23)
theorem kf_X1_firstPending : gFactV k_X1_firstPending 1 1 := ⟨⟨wc_X1_firstPending, wi_X1, ⟨by decide, by decide⟩, by decide +kernel⟩, wm_X1_firstPending, wl_X1_firstPending, _, _, rfl⟩
abbrev k_X1_isAhead : gK := (yX1_isAhead, cX1_isAhead, 4, (some .boolean), 0, 0)
theorem kf_X1_isAhead : gFactV k_X1_isAhead 3 1 := ⟨⟨wc_X1_isAhead, wi_X1, ⟨by decide, by decide⟩, by decide +kernel⟩, wm_X1_isAhead, wl_X1_isAhead, _, _, rfl⟩
abbrev k_X7_resolve : gK := (yX7_resolve, cX7_resolve, 5, (some .int), 5, 113)
theorem kf_X7_resolve : gFactV k_X7_resolve 2 7 := ⟨⟨wc_X7_resolve, wi_X7, ⟨by decide, by decide⟩, by decide +kernel⟩, wm_X7_resolve, wl_X7_resolve, _, _, rfl⟩
abbrev k_X2_canGet : gK := (yX2_canGet, cX2_canGet, 3, (some .boolean), 0, 0)
theorem kf_X2_canGet : gFactV k_X2_canGet 2 2 := ⟨⟨wc_X2_canGet, wi_X2, ⟨by decide, by decide⟩, by decide +kernel⟩, wm_X2_canGet, wl_X2_canGet, _, _, rfl⟩
abbrev k_X5_settle : gK := (yX5_settle, cX5_settle, 4, none, 3, 68)
theorem kf_X5_settle : gFactV k_X5_settle 3 5 := ⟨⟨wc_X5_settle, wi_X5, ⟨by decide, by decide⟩, by decide +kernel⟩, wm_X5_settle, wl_X5_settle, _, _, rfl⟩
abbrev k_X1_resolveAs : gK := (yX1_resolveAs, cX1_resolveAs, 5, none, 0, 0)
theorem kf_X1_resolveAs : gFactV k_X1_resolveAs 4 1 := ⟨⟨wc_X1_resolveAs, wi_X1, ⟨by decide, by decide⟩, by decide +kernel⟩, wm_X1_resolveAs, wl_X1_resolveAs, _, _, rfl⟩
abbrev k_X2_isChanged : gK := (yX2_isChanged, cX2_isChanged, 2, (some .boolean), 1, 21)
theorem kf_X2_isChanged : gFactV k_X2_isChanged 0 2 := ⟨⟨wc_X2_isChanged, wi_X2, ⟨by decide, by decide⟩, by decide +kernel⟩, wm_X2_isChanged, wl_X2_isChanged, _, _, rfl⟩
abbrev k_X5_bringEdition : gK := (yX5_bringEdition, cX5_bringEdition, 4, none, 2, 45)
theorem kf_X5_bringEdition : gFactV k_X5_bringEdition 0 5 := ⟨⟨wc_X5_bringEdition, wi_X5, ⟨by decide, by decide⟩, by decide +kernel⟩, wm_X5_bringEdition, wl_X5_bringEdition, _, _, rfl⟩
abbrev k_X1_firstBehind : gK := (yX1_firstBehind, cX1_firstBehind, 5, (some .int), 1, 21)
theorem kf_X1_firstBehind : gFactV k_X1_firstBehind 2 1 := ⟨⟨wc_X1_firstBehind, wi_X1, ⟨by decide, by decide⟩, by decide +kernel⟩, wm_X1_firstBehind, wl_X1_firstBehind, _, _, rfl⟩
abbrev k_X7_appeal : gK := (yX7_appeal, cX7_appeal, 4, (some .int), 5, 113)
theorem kf_X7_appeal : gFactV k_X7_appeal 3 7 := ⟨⟨wc_X7_appeal, wi_X7, ⟨by decide, by decide⟩, by decide +kernel⟩, wm_X7_appeal, wl_X7_appeal, _, _, rfl⟩
abbrev k_X4_isSet : gK := (yX4_isSet, cX4_isSet, 2, (some .boolean), 0, 0)
theorem kf_X4_isSet : gFactV k_X4_isSet 1 4 := ⟨⟨wc_X4_isSet, wi_X4, ⟨by decide, by decide⟩, by decide +kernel⟩, wm_X4_isSet, wl_X4_isSet, _, _, rfl⟩
abbrev k_X5_reopen : gK := (yX5_reopen, cX5_reopen, 4, none, 2, 45)
theorem kf_X5_reopen : gFactV k_X5_reopen 1 5 := ⟨⟨wc_X5_reopen, wi_X5, ⟨by decide, by decide⟩, by decide +kernel⟩, wm_X5_reopen, wl_X5_reopen, _, _, rfl⟩
abbrev k_X7_changes : gK := (yX7_changes, cX7_changes, 2, (some .int), 3, 66)
theorem kf_X7_changes : gFactV k_X7_changes 1 7 := ⟨⟨wc_X7_changes, wi_X7, ⟨by decide, by decide⟩, by decide +kernel⟩, wm_X7_changes, wl_X7_changes, _, _, rfl⟩
abbrev k_X2_changesOf : gK := (yX2_changesOf, cX2_changesOf, 4, (some .int), 2, 43)
theorem kf_X2_changesOf : gFactV k_X2_changesOf 1 2 := ⟨⟨wc_X2_changesOf, wi_X2, ⟨by decide, by decide⟩, by decide +kernel⟩, wm_X2_changesOf, wl_X2_changesOf, _, _, rfl⟩
abbrev k_X2_differs : gK := (yX2_differs, cX2_differs, 3, (some .boolean), 1, 21)
theorem kf_X2_differs : gFactV k_X2_differs 2 2 := ⟨⟨wc_X2_differs, wi_X2, ⟨by decide, by decide⟩, by decide +kernel⟩, wm_X2_differs, wl_X2_differs, _, _, rfl⟩
abbrev k_X7_change : gK := (yX7_change, cX7_change, 5, (some .int), 3, 67)
theorem kf_X7_change : gFactV k_X7_change 3 7 := ⟨⟨wc_X7_change, wi_X7, ⟨by decide, by decide⟩, by decide +kernel⟩, wm_X7_change, wl_X7_change, _, _, rfl⟩
abbrev k_X2_placeOfChange : gK := (yX2_placeOfChange, cX2_placeOfChange, 5, (some .int), 2, 43)
theorem kf_X2_placeOfChange : gFactV k_X2_placeOfChange 2 2 := ⟨⟨wc_X2_placeOfChange, wi_X2, ⟨by decide, by decide⟩, by decide +kernel⟩, wm_X2_placeOfChange, wl_X2_placeOfChange, _, _, rfl⟩
abbrev k_X7_undo : gK := (yX7_undo, cX7_undo, 1, (some .int), 5, 113)
theorem kf_X7_undo : gFactV k_X7_undo 0 7 := ⟨⟨wc_X7_undo, wi_X7, ⟨by decide, by decide⟩, by decide +kernel⟩, wm_X7_undo, wl_X7_undo, _, _, rfl⟩
abbrev k_X3_restore : gK := (yX3_restore, cX3_restore, 2, none, 4, 92)
theorem kf_X3_restore : gFactV k_X3_restore 1 3 := ⟨⟨wc_X3_restore, wi_X3, ⟨by decide, by decide⟩, by decide +kernel⟩, wm_X3_restore, wl_X3_restore, _, _, rfl⟩
abbrev k_X7_type : gK := (yX7_type, cX7_type, 2, (some .int), 1, 21)
theorem kf_X7_type : gFactV k_X7_type 1 7 := ⟨⟨wc_X7_type, wi_X7, ⟨by decide, by decide⟩, by decide +kernel⟩, wm_X7_type, wl_X7_type, _, _, rfl⟩
abbrev k_X6_append : gK := (yX6_append, cX6_append, 2, none, 0, 0)
theorem kf_X6_append : gFactV k_X6_append 1 6 := ⟨⟨wc_X6_append, wi_X6, ⟨by decide, by decide⟩, by decide +kernel⟩, wm_X6_append, wl_X6_append, _, _, rfl⟩
abbrev k_X7_clearText : gK := (yX7_clearText, cX7_clearText, 2, (some .int), 0, 0)
theorem kf_X7_clearText : gFactV k_X7_clearText 0 7 := ⟨⟨wc_X7_clearText, wi_X7, ⟨by decide, by decide⟩, by decide +kernel⟩, wm_X7_clearText, wl_X7_clearText, _, _, rfl⟩
abbrev k_X7_fault : gK := (yX7_fault, cX7_fault, 3, (some .int), 4, 91)
theorem kf_X7_fault : gFactV k_X7_fault 1 7 := ⟨⟨wc_X7_fault, wi_X7, ⟨by decide, by decide⟩, by decide +kernel⟩, wm_X7_fault, wl_X7_fault, _, _, rfl⟩
abbrev k_X7_firstFault : gK := (yX7_firstFault, cX7_firstFault, 4, (some .int), 3, 68)
theorem kf_X7_firstFault : gFactV k_X7_firstFault 0 7 := ⟨⟨wc_X7_firstFault, wi_X7, ⟨by decide, by decide⟩, by decide +kernel⟩, wm_X7_firstFault, wl_X7_firstFault, _, _, rfl⟩
abbrev k_X6_rewind : gK := (yX6_rewind, cX6_rewind, 1, none, 0, 0)
theorem kf_X6_rewind : gFactV k_X6_rewind 0 6 := ⟨⟨wc_X6_rewind, wi_X6, ⟨by decide, by decide⟩, by decide +kernel⟩, wm_X6_rewind, wl_X6_rewind, _, _, rfl⟩
abbrev k_X6_isAtEnd : gK := (yX6_isAtEnd, cX6_isAtEnd, 1, (some .boolean), 0, 0)
theorem kf_X6_isAtEnd : gFactV k_X6_isAtEnd 0 6 := ⟨⟨wc_X6_isAtEnd, wi_X6, ⟨by decide, by decide⟩, by decide +kernel⟩, wm_X6_isAtEnd, wl_X6_isAtEnd, _, _, rfl⟩
abbrev k_X6_readComment : gK := (yX6_readComment, cX6_readComment, 4, (some .boolean), 2, 45)
theorem kf_X6_readComment : gFactV k_X6_readComment 0 6 := ⟨⟨wc_X6_readComment, wi_X6, ⟨by decide, by decide⟩, by decide +kernel⟩, wm_X6_readComment, wl_X6_readComment, _, _, rfl⟩
abbrev k_X6_digitsAt : gK := (yX6_digitsAt, cX6_digitsAt, 5, (some .int), 1, 21)
theorem kf_X6_digitsAt : gFactV k_X6_digitsAt 2 6 := ⟨⟨wc_X6_digitsAt, wi_X6, ⟨by decide, by decide⟩, by decide +kernel⟩, wm_X6_digitsAt, wl_X6_digitsAt, _, _, rfl⟩
abbrev k_X6_signAt : gK := (yX6_signAt, cX6_signAt, 2, (some .char), 0, 0)
theorem kf_X6_signAt : gFactV k_X6_signAt 1 6 := ⟨⟨wc_X6_signAt, wi_X6, ⟨by decide, by decide⟩, by decide +kernel⟩, wm_X6_signAt, wl_X6_signAt, _, _, rfl⟩
abbrev k_X6_numberAt : gK := (yX6_numberAt, cX6_numberAt, 5, (some .int), 1, 21)
theorem kf_X6_numberAt : gFactV k_X6_numberAt 2 6 := ⟨⟨wc_X6_numberAt, wi_X6, ⟨by decide, by decide⟩, by decide +kernel⟩, wm_X6_numberAt, wl_X6_numberAt, _, _, rfl⟩
abbrev k_X7_enter : gK := (yX7_enter, cX7_enter, 5, (some .int), 5, 113)
theorem kf_X7_enter : gFactV k_X7_enter 1 7 := ⟨⟨wc_X7_enter, wi_X7, ⟨by decide, by decide⟩, by decide +kernel⟩, wm_X7_enter, wl_X7_enter, _, _, rfl⟩
abbrev k_X8_init : gK := (yX8_init, cX8_init, 1, none, 1, 29)
abbrev k_X8_undo : gK := (yX8_undo, cX8_undo, 2, (some .int), 0, 0)
theorem kf_X8_undo : gFactV k_X8_undo 0 8 := ⟨⟨wc_X8_undo, wi_X8, ⟨by decide, by decide⟩, by decide +kernel⟩, wm_X8_undo, wl_X8_undo, _, _, rfl⟩
abbrev k_X8_addMember : gK := (yX8_addMember, cX8_addMember, 4, (some .int), 1, 22)
theorem kf_X8_addMember : gFactV k_X8_addMember 1 8 := ⟨⟨wc_X8_addMember, wi_X8, ⟨by decide, by decide⟩, by decide +kernel⟩, wm_X8_addMember, wl_X8_addMember, _, _, rfl⟩
abbrev k_X8_in : gK := (yX8_in, cX8_in, 3, (some .boolean), 0, 0)
theorem kf_X8_in : gFactS k_X8_in 3 := ⟨⟨wc_X8_in, wi_X8, ⟨by decide, by decide⟩, by decide +kernel⟩, ws_X8_in⟩
abbrev k_X8_records : gK := (yX8_records, cX8_records, 2, none, 0, 0)
theorem kf_X8_records : gFactV k_X8_records 0 8 := ⟨⟨wc_X8_records, wi_X8, ⟨by decide, by decide⟩, by decide +kernel⟩, wm_X8_records, wl_X8_records, _, _, rfl⟩
abbrev k_X8_memberAt : gK := (yX8_memberAt, cX8_memberAt, 1, (some .int), 0, 0)
theorem kf_X8_memberAt : gFactS k_X8_memberAt 1 := ⟨⟨wc_X8_memberAt, wi_X8, ⟨by decide, by decide⟩, by decide +kernel⟩, ws_X8_memberAt⟩
abbrev k_X8_addClause : gK := (yX8_addClause, cX8_addClause, 5, (some .int), 2, 42)
theorem kf_X8_addClause : gFactV k_X8_addClause 2 8 := ⟨⟨wc_X8_addClause, wi_X8, ⟨by decide, by decide⟩, by decide +kernel⟩, wm_X8_addClause, wl_X8_addClause, _, _, rfl⟩
abbrev k_X8_isValue : gK := (yX8_isValue, cX8_isValue, 1, (some .boolean), 1, 22)
theorem kf_X8_isValue : gFactS k_X8_isValue 1 := ⟨⟨wc_X8_isValue, wi_X8, ⟨by decide, by decide⟩, by decide +kernel⟩, ws_X8_isValue⟩
abbrev k_X8_indexOf : gK := (yX8_indexOf, cX8_indexOf, 3, (some .int), 1, 20)
theorem kf_X8_indexOf : gFactV k_X8_indexOf 1 8 := ⟨⟨wc_X8_indexOf, wi_X8, ⟨by decide, by decide⟩, by decide +kernel⟩, wm_X8_indexOf, wl_X8_indexOf, _, _, rfl⟩
abbrev k_X8_clauseAt : gK := (yX8_clauseAt, cX8_clauseAt, 1, (some .int), 0, 0)
theorem kf_X8_clauseAt : gFactS k_X8_clauseAt 1 := ⟨⟨wc_X8_clauseAt, wi_X8, ⟨by decide, by decide⟩, by decide +kernel⟩, ws_X8_clauseAt⟩
abbrev k_X8_set : gK := (yX8_set, cX8_set, 4, (some .int), 2, 43)
theorem kf_X8_set : gFactV k_X8_set 2 8 := ⟨⟨wc_X8_set, wi_X8, ⟨by decide, by decide⟩, by decide +kernel⟩, wm_X8_set, wl_X8_set, _, _, rfl⟩
abbrev k_X8_isSetting : gK := (yX8_isSetting, cX8_isSetting, 2, (some .boolean), 1, 22)
theorem kf_X8_isSetting : gFactS k_X8_isSetting 2 := ⟨⟨wc_X8_isSetting, wi_X8, ⟨by decide, by decide⟩, by decide +kernel⟩, ws_X8_isSetting⟩
abbrev k_X8_member : gK := (yX8_member, cX8_member, 4, (some .int), 2, 43)
theorem kf_X8_member : gFactV k_X8_member 2 8 := ⟨⟨wc_X8_member, wi_X8, ⟨by decide, by decide⟩, by decide +kernel⟩, wm_X8_member, wl_X8_member, _, _, rfl⟩
abbrev k_X8_isMember : gK := (yX8_isMember, cX8_isMember, 2, (some .boolean), 1, 22)
theorem kf_X8_isMember : gFactV k_X8_isMember 1 8 := ⟨⟨wc_X8_isMember, wi_X8, ⟨by decide, by decide⟩, by decide +kernel⟩, wm_X8_isMember, wl_X8_isMember, _, _, rfl⟩
abbrev k_X8_isLapsed : gK := (yX8_isLapsed, cX8_isLapsed, 2, (some .boolean), 1, 20)
theorem kf_X8_isLapsed : gFactV k_X8_isLapsed 1 8 := ⟨⟨wc_X8_isLapsed, wi_X8, ⟨by decide, by decide⟩, by decide +kernel⟩, wm_X8_isLapsed, wl_X8_isLapsed, _, _, rfl⟩
abbrev k_X8_commentsOf : gK := (yX8_commentsOf, cX8_commentsOf, 4, (some .int), 1, 20)
theorem kf_X8_commentsOf : gFactV k_X8_commentsOf 1 8 := ⟨⟨wc_X8_commentsOf, wi_X8, ⟨by decide, by decide⟩, by decide +kernel⟩, wm_X8_commentsOf, wl_X8_commentsOf, _, _, rfl⟩
abbrev k_X8_commentAt : gK := (yX8_commentAt, cX8_commentAt, 1, (some .int), 0, 0)
theorem kf_X8_commentAt : gFactS k_X8_commentAt 1 := ⟨⟨wc_X8_commentAt, wi_X8, ⟨by decide, by decide⟩, by decide +kernel⟩, ws_X8_commentAt⟩
abbrev k_X8_value : gK := (yX8_value, cX8_value, 3, (some .int), 2, 42)
theorem kf_X8_value : gFactV k_X8_value 1 8 := ⟨⟨wc_X8_value, wi_X8, ⟨by decide, by decide⟩, by decide +kernel⟩, wm_X8_value, wl_X8_value, _, _, rfl⟩
abbrev k_X8_valueIn : gK := (yX8_valueIn, cX8_valueIn, 4, (some .int), 2, 43)
theorem kf_X8_valueIn : gFactV k_X8_valueIn 2 8 := ⟨⟨wc_X8_valueIn, wi_X8, ⟨by decide, by decide⟩, by decide +kernel⟩, wm_X8_valueIn, wl_X8_valueIn, _, _, rfl⟩
abbrev k_X8_isEdition : gK := (yX8_isEdition, cX8_isEdition, 2, (some .boolean), 1, 22)
theorem kf_X8_isEdition : gFactV k_X8_isEdition 1 8 := ⟨⟨wc_X8_isEdition, wi_X8, ⟨by decide, by decide⟩, by decide +kernel⟩, wm_X8_isEdition, wl_X8_isEdition, _, _, rfl⟩
abbrev k_X8_clause : gK := (yX8_clause, cX8_clause, 2, (some .int), 1, 20)
theorem kf_X8_clause : gFactV k_X8_clause 1 8 := ⟨⟨wc_X8_clause, wi_X8, ⟨by decide, by decide⟩, by decide +kernel⟩, wm_X8_clause, wl_X8_clause, _, _, rfl⟩
abbrev k_X8_count : gK := (yX8_count, cX8_count, 2, (some .int), 3, 63)
theorem kf_X8_count : gFactV k_X8_count 1 8 := ⟨⟨wc_X8_count, wi_X8, ⟨by decide, by decide⟩, by decide +kernel⟩, wm_X8_count, wl_X8_count, _, _, rfl⟩
abbrev k_X8_pending : gK := (yX8_pending, cX8_pending, 3, (some .int), 1, 20)
theorem kf_X8_pending : gFactV k_X8_pending 0 8 := ⟨⟨wc_X8_pending, wi_X8, ⟨by decide, by decide⟩, by decide +kernel⟩, wm_X8_pending, wl_X8_pending, _, _, rfl⟩
abbrev k_X8_activeWeight : gK := (yX8_activeWeight, cX8_activeWeight, 3, (some .int), 2, 41)
theorem kf_X8_activeWeight : gFactV k_X8_activeWeight 0 8 := ⟨⟨wc_X8_activeWeight, wi_X8, ⟨by decide, by decide⟩, by decide +kernel⟩, wm_X8_activeWeight, wl_X8_activeWeight, _, _, rfl⟩
abbrev k_X8_open : gK := (yX8_open, cX8_open, 2, (some .int), 2, 42)
theorem kf_X8_open : gFactV k_X8_open 0 8 := ⟨⟨wc_X8_open, wi_X8, ⟨by decide, by decide⟩, by decide +kernel⟩, wm_X8_open, wl_X8_open, _, _, rfl⟩
abbrev k_X8_vote : gK := (yX8_vote, cX8_vote, 5, (some .int), 2, 43)
theorem kf_X8_vote : gFactV k_X8_vote 2 8 := ⟨⟨wc_X8_vote, wi_X8, ⟨by decide, by decide⟩, by decide +kernel⟩, wm_X8_vote, wl_X8_vote, _, _, rfl⟩
abbrev k_X8_pass : gK := (yX8_pass, cX8_pass, 3, (some .int), 5, 108)
theorem kf_X8_pass : gFactV k_X8_pass 1 8 := ⟨⟨wc_X8_pass, wi_X8, ⟨by decide, by decide⟩, by decide +kernel⟩, wm_X8_pass, wl_X8_pass, _, _, rfl⟩
abbrev k_X8_ends : gK := (yX8_ends, cX8_ends, 3, (some .boolean), 4, 86)
theorem kf_X8_ends : gFactV k_X8_ends 0 8 := ⟨⟨wc_X8_ends, wi_X8, ⟨by decide, by decide⟩, by decide +kernel⟩, wm_X8_ends, wl_X8_ends, _, _, rfl⟩
abbrev k_X8_tallies : gK := (yX8_tallies, cX8_tallies, 4, none, 3, 63)
theorem kf_X8_tallies : gFactV k_X8_tallies 0 8 := ⟨⟨wc_X8_tallies, wi_X8, ⟨by decide, by decide⟩, by decide +kernel⟩, wm_X8_tallies, wl_X8_tallies, _, _, rfl⟩
abbrev k_X8_isTechnical : gK := (yX8_isTechnical, cX8_isTechnical, 4, (some .boolean), 1, 20)
theorem kf_X8_isTechnical : gFactV k_X8_isTechnical 1 8 := ⟨⟨wc_X8_isTechnical, wi_X8, ⟨by decide, by decide⟩, by decide +kernel⟩, wm_X8_isTechnical, wl_X8_isTechnical, _, _, rfl⟩
abbrev k_X8_carries : gK := (yX8_carries, cX8_carries, 5, (some .boolean), 0, 0)
theorem kf_X8_carries : gFactV k_X8_carries 4 8 := ⟨⟨wc_X8_carries, wi_X8, ⟨by decide, by decide⟩, by decide +kernel⟩, wm_X8_carries, wl_X8_carries, _, _, rfl⟩
abbrev k_X8_tally : gK := (yX8_tally, cX8_tally, 2, (some .int), 4, 86)
theorem kf_X8_tally : gFactV k_X8_tally 1 8 := ⟨⟨wc_X8_tally, wi_X8, ⟨by decide, by decide⟩, by decide +kernel⟩, wm_X8_tally, wl_X8_tally, _, _, rfl⟩
abbrev k_X8_lacking : gK := (yX8_lacking, cX8_lacking, 4, (some .int), 4, 86)
theorem kf_X8_lacking : gFactV k_X8_lacking 0 8 := ⟨⟨wc_X8_lacking, wi_X8, ⟨by decide, by decide⟩, by decide +kernel⟩, wm_X8_lacking, wl_X8_lacking, _, _, rfl⟩
abbrev k_X8_comment : gK := (yX8_comment, cX8_comment, 6, (some .int), 2, 46)
theorem kf_X8_comment : gFactV k_X8_comment 4 8 := ⟨⟨wc_X8_comment, wi_X8, ⟨by decide, by decide⟩, by decide +kernel⟩, wm_X8_comment, wl_X8_comment, _, _, rfl⟩
abbrev k_X8_comes : gK := (yX8_comes, cX8_comes, 7, (some .int), 1, 20)
theorem kf_X8_comes : gFactV k_X8_comes 4 8 := ⟨⟨wc_X8_comes, wi_X8, ⟨by decide, by decide⟩, by decide +kernel⟩, wm_X8_comes, wl_X8_comes, _, _, rfl⟩
abbrev k_X8_told : gK := (yX8_told, cX8_told, 5, (some .int), 2, 43)
theorem kf_X8_told : gFactV k_X8_told 2 8 := ⟨⟨wc_X8_told, wi_X8, ⟨by decide, by decide⟩, by decide +kernel⟩, wm_X8_told, wl_X8_told, _, _, rfl⟩
abbrev k_X8_isComment : gK := (yX8_isComment, cX8_isComment, 2, (some .boolean), 1, 22)
theorem kf_X8_isComment : gFactV k_X8_isComment 1 8 := ⟨⟨wc_X8_isComment, wi_X8, ⟨by decide, by decide⟩, by decide +kernel⟩, wm_X8_isComment, wl_X8_isComment, _, _, rfl⟩
abbrev k_X8_next : gK := (yX8_next, cX8_next, 4, (some .int), 2, 46)
theorem kf_X8_next : gFactV k_X8_next 0 8 := ⟨⟨wc_X8_next, wi_X8, ⟨by decide, by decide⟩, by decide +kernel⟩, wm_X8_next, wl_X8_next, _, _, rfl⟩
abbrev k_X8_isAhead : gK := (yX8_isAhead, cX8_isAhead, 7, (some .boolean), 1, 20)
theorem kf_X8_isAhead : gFactV k_X8_isAhead 2 8 := ⟨⟨wc_X8_isAhead, wi_X8, ⟨by decide, by decide⟩, by decide +kernel⟩, wm_X8_isAhead, wl_X8_isAhead, _, _, rfl⟩
abbrev k_X8_resolve : gK := (yX8_resolve, cX8_resolve, 8, (some .int), 3, 69)
theorem kf_X8_resolve : gFactV k_X8_resolve 2 8 := ⟨⟨wc_X8_resolve, wi_X8, ⟨by decide, by decide⟩, by decide +kernel⟩, wm_X8_resolve, wl_X8_resolve, _, _, rfl⟩
abbrev k_X8_canGet : gK := (yX8_canGet, cX8_canGet, 4, (some .boolean), 1, 20)
theorem kf_X8_canGet : gFactV k_X8_canGet 2 8 := ⟨⟨wc_X8_canGet, wi_X8, ⟨by decide, by decide⟩, by decide +kernel⟩, wm_X8_canGet, wl_X8_canGet, _, _, rfl⟩
abbrev k_X8_comesEdition : gK := (yX8_comesEdition, cX8_comesEdition, 4, none, 2, 46)
theorem kf_X8_comesEdition : gFactV k_X8_comesEdition 0 8 := ⟨⟨wc_X8_comesEdition, wi_X8, ⟨by decide, by decide⟩, by decide +kernel⟩, wm_X8_comesEdition, wl_X8_comesEdition, _, _, rfl⟩
abbrev k_X8_giver : gK := (yX8_giver, cX8_giver, 7, (some .int), 1, 20)
theorem kf_X8_giver : gFactV k_X8_giver 2 8 := ⟨⟨wc_X8_giver, wi_X8, ⟨by decide, by decide⟩, by decide +kernel⟩, wm_X8_giver, wl_X8_giver, _, _, rfl⟩
abbrev k_X8_appeal : gK := (yX8_appeal, cX8_appeal, 8, (some .int), 3, 71)
theorem kf_X8_appeal : gFactV k_X8_appeal 3 8 := ⟨⟨wc_X8_appeal, wi_X8, ⟨by decide, by decide⟩, by decide +kernel⟩, wm_X8_appeal, wl_X8_appeal, _, _, rfl⟩
abbrev k_X8_reopens : gK := (yX8_reopens, cX8_reopens, 6, none, 2, 46)
theorem kf_X8_reopens : gFactV k_X8_reopens 1 8 := ⟨⟨wc_X8_reopens, wi_X8, ⟨by decide, by decide⟩, by decide +kernel⟩, wm_X8_reopens, wl_X8_reopens, _, _, rfl⟩
abbrev k_X8_changes : gK := (yX8_changes, cX8_changes, 4, (some .int), 2, 43)
theorem kf_X8_changes : gFactV k_X8_changes 1 8 := ⟨⟨wc_X8_changes, wi_X8, ⟨by decide, by decide⟩, by decide +kernel⟩, wm_X8_changes, wl_X8_changes, _, _, rfl⟩
abbrev k_X8_isChanged : gK := (yX8_isChanged, cX8_isChanged, 4, (some .boolean), 1, 20)
theorem kf_X8_isChanged : gFactV k_X8_isChanged 2 8 := ⟨⟨wc_X8_isChanged, wi_X8, ⟨by decide, by decide⟩, by decide +kernel⟩, wm_X8_isChanged, wl_X8_isChanged, _, _, rfl⟩
abbrev k_X8_change : gK := (yX8_change, cX8_change, 7, (some .int), 2, 43)
theorem kf_X8_change : gFactV k_X8_change 3 8 := ⟨⟨wc_X8_change, wi_X8, ⟨by decide, by decide⟩, by decide +kernel⟩, wm_X8_change, wl_X8_change, _, _, rfl⟩
abbrev k_X8_type : gK := (yX8_type, cX8_type, 2, (some .int), 1, 22)
theorem kf_X8_type : gFactV k_X8_type 1 8 := ⟨⟨wc_X8_type, wi_X8, ⟨by decide, by decide⟩, by decide +kernel⟩, wm_X8_type, wl_X8_type, _, _, rfl⟩
abbrev k_X8_clearText : gK := (yX8_clearText, cX8_clearText, 2, (some .int), 0, 0)
theorem kf_X8_clearText : gFactV k_X8_clearText 0 8 := ⟨⟨wc_X8_clearText, wi_X8, ⟨by decide, by decide⟩, by decide +kernel⟩, wm_X8_clearText, wl_X8_clearText, _, _, rfl⟩
abbrev k_X8_fault : gK := (yX8_fault, cX8_fault, 2, (some .int), 4, 89)
theorem kf_X8_fault : gFactV k_X8_fault 1 8 := ⟨⟨wc_X8_fault, wi_X8, ⟨by decide, by decide⟩, by decide +kernel⟩, wm_X8_fault, wl_X8_fault, _, _, rfl⟩
abbrev k_X8_hasFault : gK := (yX8_hasFault, cX8_hasFault, 5, (some .boolean), 3, 65)
theorem kf_X8_hasFault : gFactV k_X8_hasFault 0 8 := ⟨⟨wc_X8_hasFault, wi_X8, ⟨by decide, by decide⟩, by decide +kernel⟩, wm_X8_hasFault, wl_X8_hasFault, _, _, rfl⟩
abbrev k_X8_readsComment : gK := (yX8_readsComment, cX8_readsComment, 1, (some .boolean), 2, 45)
theorem kf_X8_readsComment : gFactV k_X8_readsComment 0 8 := ⟨⟨wc_X8_readsComment, wi_X8, ⟨by decide, by decide⟩, by decide +kernel⟩, wm_X8_readsComment, wl_X8_readsComment, _, _, rfl⟩
abbrev k_X8_readNumber : gK := (yX8_readNumber, cX8_readNumber, 4, (some .int), 1, 22)
theorem kf_X8_readNumber : gFactV k_X8_readNumber 1 8 := ⟨⟨wc_X8_readNumber, wi_X8, ⟨by decide, by decide⟩, by decide +kernel⟩, wm_X8_readNumber, wl_X8_readNumber, _, _, rfl⟩
abbrev k_X8_here : gK := (yX8_here, cX8_here, 1, (some .int), 0, 0)
theorem kf_X8_here : gFactV k_X8_here 0 8 := ⟨⟨wc_X8_here, wi_X8, ⟨by decide, by decide⟩, by decide +kernel⟩, wm_X8_here, wl_X8_here, _, _, rfl⟩
abbrev k_X8_takes : gK := (yX8_takes, cX8_takes, 3, (some .boolean), 1, 20)
theorem kf_X8_takes : gFactV k_X8_takes 1 8 := ⟨⟨wc_X8_takes, wi_X8, ⟨by decide, by decide⟩, by decide +kernel⟩, wm_X8_takes, wl_X8_takes, _, _, rfl⟩
abbrev k_X8_enter : gK := (yX8_enter, cX8_enter, 6, (some .int), 4, 89)
theorem kf_X8_enter : gFactV k_X8_enter 1 8 := ⟨⟨wc_X8_enter, wi_X8, ⟨by decide, by decide⟩, by decide +kernel⟩, wm_X8_enter, wl_X8_enter, _, _, rfl⟩
theorem ic_m1 : Int32.ofInt (-1) = (-1) := by decide
theorem ic_0 : Int32.ofInt 0 = nI 0 := by decide
theorem ic_1 : Int32.ofInt 1 = nI 1 := by decide
theorem ic_2 : Int32.ofInt 2 = nI 2 := by decide
theorem ic_3 : Int32.ofInt 3 = nI 3 := by decide
theorem ic_4 : Int32.ofInt 4 = nI 4 := by decide
theorem ic_5 : Int32.ofInt 5 = nI 5 := by decide
theorem bc_m4 : (Int8.ofInt (-4)).toInt32 = (-4) := by decide
theorem bc_m3 : (Int8.ofInt (-3)).toInt32 = (-3) := by decide
theorem bc_m2 : (Int8.ofInt (-2)).toInt32 = (-2) := by decide
theorem bc_6 : (Int8.ofInt 6).toInt32 = nI 6 := by decide
theorem bc_7 : (Int8.ofInt 7).toInt32 = nI 7 := by decide
theorem bc_8 : (Int8.ofInt 8).toInt32 = nI 8 := by decide
theorem bc_9 : (Int8.ofInt 9).toInt32 = nI 9 := by decide
theorem bc_10 : (Int8.ofInt 10).toInt32 = nI 10 := by decide
theorem bc_11 : (Int8.ofInt 11).toInt32 = nI 11 := by decide
theorem bc_12 : (Int8.ofInt 12).toInt32 = nI 12 := by decide
theorem bc_13 : (Int8.ofInt 13).toInt32 = nI 13 := by decide
theorem bc_14 : (Int8.ofInt 14).toInt32 = nI 14 := by decide
theorem bc_15 : (Int8.ofInt 15).toInt32 = nI 15 := by decide
theorem bc_16 : (Int8.ofInt 16).toInt32 = nI 16 := by decide
theorem bc_17 : (Int8.ofInt 17).toInt32 = nI 17 := by decide
theorem bc_18 : (Int8.ofInt 18).toInt32 = nI 18 := by decide
theorem bc_19 : (Int8.ofInt 19).toInt32 = nI 19 := by decide
theorem bc_20 : (Int8.ofInt 20).toInt32 = nI 20 := by decide
theorem bc_22 : (Int8.ofInt 22).toInt32 = nI 22 := by decide
theorem bc_23 : (Int8.ofInt 23).toInt32 = nI 23 := by decide
theorem bc_24 : (Int8.ofInt 24).toInt32 = nI 24 := by decide
theorem bc_25 : (Int8.ofInt 25).toInt32 = nI 25 := by decide
theorem bc_30 : (Int8.ofInt 30).toInt32 = nI 30 := by decide
theorem bc_31 : (Int8.ofInt 31).toInt32 = nI 31 := by decide
theorem bc_32 : (Int8.ofInt 32).toInt32 = nI 32 := by decide
theorem bc_45 : (Int8.ofInt 45).toInt32 = nI 45 := by decide
theorem bc_48 : (Int8.ofInt 48).toInt32 = nI 48 := by decide
theorem bc_50 : (Int8.ofInt 50).toInt32 = nI 50 := by decide
theorem bc_57 : (Int8.ofInt 57).toInt32 = nI 57 := by decide
theorem bc_59 : (Int8.ofInt 59).toInt32 = nI 59 := by decide
theorem bc_60 : (Int8.ofInt 60).toInt32 = nI 60 := by decide
theorem bc_61 : (Int8.ofInt 61).toInt32 = nI 61 := by decide
theorem bc_67 : (Int8.ofInt 67).toInt32 = nI 67 := by decide
theorem bc_73 : (Int8.ofInt 73).toInt32 = nI 73 := by decide
theorem bc_80 : (Int8.ofInt 80).toInt32 = nI 80 := by decide
theorem bc_99 : (Int8.ofInt 99).toInt32 = nI 99 := by decide
theorem bc_100 : (Int8.ofInt 100).toInt32 = nI 100 := by decide
theorem bc_101 : (Int8.ofInt 101).toInt32 = nI 101 := by decide
theorem bc_116 : (Int8.ofInt 116).toInt32 = nI 116 := by decide
theorem bc_126 : (Int8.ofInt 126).toInt32 = nI 126 := by decide
theorem sc_240 : (Int16.ofInt 240).toInt32 = nI 240 := by decide
theorem sc_365 : (Int16.ofInt 365).toInt32 = nI 365 := by decide
theorem sc_973 : (Int16.ofInt 973).toInt32 = nI 973 := by decide
theorem sc_1213 : (Int16.ofInt 1213).toInt32 = nI 1213 := by decide
theorem sc_3639 : (Int16.ofInt 3639).toInt32 = nI 3639 := by decide
theorem sc_4852 : (Int16.ofInt 4852).toInt32 = nI 4852 := by decide
theorem sc_9999 : (Int16.ofInt 9999).toInt32 = nI 9999 := by decide
theorem sc_10000 : (Int16.ofInt 10000).toInt32 = nI 10000 := by decide
def gB (b : Bool) : Int32 := if b then nI 1 else nI 0
theorem gB_01 (b : Bool) : gB b = 0 ∨ gB b = 1 := by cases b <;> first | exact Or.inl rfl | exact Or.inr rfl
theorem gB_0 {b : Bool} : gB b = 0 ↔ b = false := by cases b <;> decide
theorem gB_1 {b : Bool} (h : b = true) : nI 1 = gB b := by subst h; rfl
theorem gB_n {b : Bool} (h : b = false) : nI 0 = gB b := by subst h; rfl
theorem g_if_eqB {X : gX} {E : gE} {cc : ByteArray} {own : String} {nL f lo : Nat} {M : gM} {pc n : Nat} {ls : gLs} {st : List Value} {Q : State → Prop} (hX : gOk X E cc own nL f lo) {x : Bool} {off : Int} {tgt : Nat} (hd : decode cc pc = .ok (.ifCond .eq off, 3)) (ht : (pc : Int) + off = (tgt : Int)) (hn : pc + 3 = n) (kt : x = false → gG X E M tgt ls st Q) (kf : x = true → gG X E M n ls st Q) : gG X E M pc ls (.int (gB x) :: st) Q :=
  g_if_eq hX hd ht hn (fun h => kt (gB_0.mp h)) (fun h => kf (by cases x with | true => rfl | false => exact absurd rfl h))
theorem g_if_neB {X : gX} {E : gE} {cc : ByteArray} {own : String} {nL f lo : Nat} {M : gM} {pc n : Nat} {ls : gLs} {st : List Value} {Q : State → Prop} (hX : gOk X E cc own nL f lo) {x : Bool} {off : Int} {tgt : Nat} (hd : decode cc pc = .ok (.ifCond .ne off, 3)) (ht : (pc : Int) + off = (tgt : Int)) (hn : pc + 3 = n) (kt : x = true → gG X E M tgt ls st Q) (kf : x = false → gG X E M n ls st Q) : gG X E M pc ls (.int (gB x) :: st) Q :=
  g_if_ne hX hd ht hn (fun h => kt (by cases x with | true => rfl | false => exact absurd rfl h)) (fun h => kf (gB_0.mp h))
/-- a loop that counts up -/
theorem up_loop (e : Nat) (P : Nat → Prop) (hend : P e) (hstep : ∀ k, k < e → P (k + 1) → P k) : ∀ k, k ≤ e → P k := by
  intro k hk
  obtain ⟨d, hd⟩ : ∃ d, d = e - k := ⟨_, rfl⟩
  induction d generalizing k with
  | zero =>
    have : k = e := by omega
    subst this; exact hend
  | succ d ih => exact hstep k (by omega) (ih (k + 1) (by omega) (by omega))
theorem gwk {X : gX} {E : gE} {M : gM} {pc : Nat} {ls : gLs} {st : List Value} {Q Q' : State → Prop} (h : gG X E M pc ls st Q) (e : Q = Q') : gG X E M pc ls st Q' := e ▸ h
end
section
theorem dJ7_fill_53178_0 : decode cJ7_fill_53178 0 = .ok (.iconst 0, 1) := by decide +kernel
theorem dJ7_fill_53178_1 : decode cJ7_fill_53178 1 = .ok (.istore_n 2, 1) := by decide +kernel
theorem dJ7_fill_53178_2 : decode cJ7_fill_53178 2 = .ok (.aload_n 0, 1) := by decide +kernel
theorem dJ7_fill_53178_3 : decode cJ7_fill_53178 3 = .ok (.arraylength, 1) := by decide +kernel
theorem dJ7_fill_53178_4 : decode cJ7_fill_53178 4 = .ok (.istore_n 3, 1) := by decide +kernel
theorem dJ7_fill_53178_5 : decode cJ7_fill_53178 5 = .ok (.iload_n 2, 1) := by decide +kernel
theorem dJ7_fill_53178_6 : decode cJ7_fill_53178 6 = .ok (.iload_n 3, 1) := by decide +kernel
theorem dJ7_fill_53178_7 : decode cJ7_fill_53178 7 = .ok (.if_icmp .ge 13, 3) := by decide +kernel
theorem dJ7_fill_53178_10 : decode cJ7_fill_53178 10 = .ok (.aload_n 0, 1) := by decide +kernel
theorem dJ7_fill_53178_11 : decode cJ7_fill_53178 11 = .ok (.iload_n 2, 1) := by decide +kernel
theorem dJ7_fill_53178_12 : decode cJ7_fill_53178 12 = .ok (.iload_n 1, 1) := by decide +kernel
theorem dJ7_fill_53178_13 : decode cJ7_fill_53178 13 = .ok (.iastore, 1) := by decide +kernel
theorem dJ7_fill_53178_14 : decode cJ7_fill_53178 14 = .ok (.iinc 2 1, 3) := by decide +kernel
theorem dJ7_fill_53178_17 : decode cJ7_fill_53178 17 = .ok (.goto (-12), 3) := by decide +kernel
theorem dJ7_fill_53178_20 : decode cJ7_fill_53178 20 = .ok (.return_, 1) := by decide +kernel
theorem dJ9_max_7cf53_0 : decode cJ9_max_7cf53 0 = .ok (.iload_n 0, 1) := by decide +kernel
theorem dJ9_max_7cf53_1 : decode cJ9_max_7cf53 1 = .ok (.iload_n 1, 1) := by decide +kernel
theorem dJ9_max_7cf53_2 : decode cJ9_max_7cf53 2 = .ok (.if_icmp .lt 7, 3) := by decide +kernel
theorem dJ9_max_7cf53_5 : decode cJ9_max_7cf53 5 = .ok (.iload_n 0, 1) := by decide +kernel
theorem dJ9_max_7cf53_6 : decode cJ9_max_7cf53 6 = .ok (.goto 4, 3) := by decide +kernel
theorem dJ9_max_7cf53_9 : decode cJ9_max_7cf53 9 = .ok (.iload_n 1, 1) := by decide +kernel
theorem dJ9_max_7cf53_10 : decode cJ9_max_7cf53 10 = .ok (.ireturn, 1) := by decide +kernel
theorem dJ9_min_7cf53_0 : decode cJ9_min_7cf53 0 = .ok (.iload_n 0, 1) := by decide +kernel
theorem dJ9_min_7cf53_1 : decode cJ9_min_7cf53 1 = .ok (.iload_n 1, 1) := by decide +kernel
theorem dJ9_min_7cf53_2 : decode cJ9_min_7cf53 2 = .ok (.if_icmp .gt 7, 3) := by decide +kernel
theorem dJ9_min_7cf53_5 : decode cJ9_min_7cf53 5 = .ok (.iload_n 0, 1) := by decide +kernel
theorem dJ9_min_7cf53_6 : decode cJ9_min_7cf53 6 = .ok (.goto 4, 3) := by decide +kernel
theorem dJ9_min_7cf53_9 : decode cJ9_min_7cf53 9 = .ok (.iload_n 1, 1) := by decide +kernel
theorem dJ9_min_7cf53_10 : decode cJ9_min_7cf53 10 = .ok (.ireturn, 1) := by decide +kernel
theorem dX0_init_0 : decode cX0_init 0 = .ok (.aload_n 0, 1) := by decide +kernel
theorem dX0_init_1 : decode cX0_init 1 = .ok (.invokespecial 3, 3) := by decide +kernel
theorem dX0_init_4 : decode cX0_init 4 = .ok (.aload_n 0, 1) := by decide +kernel
theorem dX0_init_5 : decode cX0_init 5 = .ok (.bipush 6, 2) := by decide +kernel
theorem dX0_init_7 : decode cX0_init 7 = .ok (.newarray .int, 2) := by decide +kernel
theorem dX0_init_9 : decode cX0_init 9 = .ok (.putfield 9, 3) := by decide +kernel
theorem dX0_init_12 : decode cX0_init 12 = .ok (.return_, 1) := by decide +kernel
theorem dX0_copyFrom_0 : decode cX0_copyFrom 0 = .ok (.aload_n 1, 1) := by decide +kernel
theorem dX0_copyFrom_1 : decode cX0_copyFrom 1 = .ok (.getfield 9, 3) := by decide +kernel
theorem dX0_copyFrom_4 : decode cX0_copyFrom 4 = .ok (.aload_n 0, 1) := by decide +kernel
theorem dX0_copyFrom_5 : decode cX0_copyFrom 5 = .ok (.getfield 9, 3) := by decide +kernel
theorem dX0_copyFrom_8 : decode cX0_copyFrom 8 = .ok (.invokestatic 15, 3) := by decide +kernel
theorem dX0_copyFrom_11 : decode cX0_copyFrom 11 = .ok (.aload_n 0, 1) := by decide +kernel
theorem dX0_copyFrom_12 : decode cX0_copyFrom 12 = .ok (.aload_n 1, 1) := by decide +kernel
theorem dX0_copyFrom_13 : decode cX0_copyFrom 13 = .ok (.getfield 19, 3) := by decide +kernel
theorem dX0_copyFrom_16 : decode cX0_copyFrom 16 = .ok (.putfield 19, 3) := by decide +kernel
theorem dX0_copyFrom_19 : decode cX0_copyFrom 19 = .ok (.aload_n 0, 1) := by decide +kernel
theorem dX0_copyFrom_20 : decode cX0_copyFrom 20 = .ok (.aload_n 1, 1) := by decide +kernel
theorem dX0_copyFrom_21 : decode cX0_copyFrom 21 = .ok (.getfield 23, 3) := by decide +kernel
theorem dX0_copyFrom_24 : decode cX0_copyFrom 24 = .ok (.putfield 23, 3) := by decide +kernel
theorem dX0_copyFrom_27 : decode cX0_copyFrom 27 = .ok (.aload_n 0, 1) := by decide +kernel
theorem dX0_copyFrom_28 : decode cX0_copyFrom 28 = .ok (.aload_n 1, 1) := by decide +kernel
theorem dX0_copyFrom_29 : decode cX0_copyFrom 29 = .ok (.getfield 26, 3) := by decide +kernel
theorem dX0_copyFrom_32 : decode cX0_copyFrom 32 = .ok (.putfield 26, 3) := by decide +kernel
theorem dX0_copyFrom_35 : decode cX0_copyFrom 35 = .ok (.aload_n 0, 1) := by decide +kernel
theorem dX0_copyFrom_36 : decode cX0_copyFrom 36 = .ok (.aload_n 1, 1) := by decide +kernel
theorem dX0_copyFrom_37 : decode cX0_copyFrom 37 = .ok (.getfield 30, 3) := by decide +kernel
theorem dX0_copyFrom_40 : decode cX0_copyFrom 40 = .ok (.putfield 30, 3) := by decide +kernel
theorem dX0_copyFrom_43 : decode cX0_copyFrom 43 = .ok (.return_, 1) := by decide +kernel
theorem dX1_init_0 : decode cX1_init 0 = .ok (.aload_n 0, 1) := by decide +kernel
theorem dX1_init_1 : decode cX1_init 1 = .ok (.invokespecial 3, 3) := by decide +kernel
theorem dX1_init_4 : decode cX1_init 4 = .ok (.aload_n 0, 1) := by decide +kernel
theorem dX1_init_5 : decode cX1_init 5 = .ok (.bipush 30, 2) := by decide +kernel
theorem dX1_init_7 : decode cX1_init 7 = .ok (.newarray .int, 2) := by decide +kernel
theorem dX1_init_9 : decode cX1_init 9 = .ok (.putfield 9, 3) := by decide +kernel
theorem dX1_init_12 : decode cX1_init 12 = .ok (.aload_n 0, 1) := by decide +kernel
theorem dX1_init_13 : decode cX1_init 13 = .ok (.bipush 30, 2) := by decide +kernel
theorem dX1_init_15 : decode cX1_init 15 = .ok (.newarray .int, 2) := by decide +kernel
theorem dX1_init_17 : decode cX1_init 17 = .ok (.putfield 15, 3) := by decide +kernel
theorem dX1_init_20 : decode cX1_init 20 = .ok (.aload_n 0, 1) := by decide +kernel
theorem dX1_init_21 : decode cX1_init 21 = .ok (.bipush 30, 2) := by decide +kernel
theorem dX1_init_23 : decode cX1_init 23 = .ok (.newarray .int, 2) := by decide +kernel
theorem dX1_init_25 : decode cX1_init 25 = .ok (.putfield 18, 3) := by decide +kernel
theorem dX1_init_28 : decode cX1_init 28 = .ok (.aload_n 0, 1) := by decide +kernel
theorem dX1_init_29 : decode cX1_init 29 = .ok (.bipush 30, 2) := by decide +kernel
theorem dX1_init_31 : decode cX1_init 31 = .ok (.newarray .int, 2) := by decide +kernel
theorem dX1_init_33 : decode cX1_init 33 = .ok (.putfield 21, 3) := by decide +kernel
theorem dX1_init_36 : decode cX1_init 36 = .ok (.aload_n 0, 1) := by decide +kernel
theorem dX1_init_37 : decode cX1_init 37 = .ok (.bipush 30, 2) := by decide +kernel
theorem dX1_init_39 : decode cX1_init 39 = .ok (.newarray .int, 2) := by decide +kernel
theorem dX1_init_41 : decode cX1_init 41 = .ok (.putfield 24, 3) := by decide +kernel
theorem dX1_init_44 : decode cX1_init 44 = .ok (.aload_n 0, 1) := by decide +kernel
theorem dX1_init_45 : decode cX1_init 45 = .ok (.bipush 30, 2) := by decide +kernel
theorem dX1_init_47 : decode cX1_init 47 = .ok (.newarray .int, 2) := by decide +kernel
theorem dX1_init_49 : decode cX1_init 49 = .ok (.putfield 27, 3) := by decide +kernel
theorem dX1_init_52 : decode cX1_init 52 = .ok (.aload_n 0, 1) := by decide +kernel
theorem dX1_init_53 : decode cX1_init 53 = .ok (.bipush 30, 2) := by decide +kernel
theorem dX1_init_55 : decode cX1_init 55 = .ok (.newarray .int, 2) := by decide +kernel
theorem dX1_init_57 : decode cX1_init 57 = .ok (.putfield 30, 3) := by decide +kernel
theorem dX1_init_60 : decode cX1_init 60 = .ok (.aload_n 0, 1) := by decide +kernel
theorem dX1_init_61 : decode cX1_init 61 = .ok (.bipush 30, 2) := by decide +kernel
theorem dX1_init_63 : decode cX1_init 63 = .ok (.newarray .int, 2) := by decide +kernel
theorem dX1_init_65 : decode cX1_init 65 = .ok (.putfield 33, 3) := by decide +kernel
theorem dX1_init_68 : decode cX1_init 68 = .ok (.return_, 1) := by decide +kernel
theorem dX1_copyFrom_0 : decode cX1_copyFrom 0 = .ok (.aload_n 1, 1) := by decide +kernel
theorem dX1_copyFrom_1 : decode cX1_copyFrom 1 = .ok (.getfield 9, 3) := by decide +kernel
theorem dX1_copyFrom_4 : decode cX1_copyFrom 4 = .ok (.aload_n 0, 1) := by decide +kernel
theorem dX1_copyFrom_5 : decode cX1_copyFrom 5 = .ok (.getfield 9, 3) := by decide +kernel
theorem dX1_copyFrom_8 : decode cX1_copyFrom 8 = .ok (.invokestatic 36, 3) := by decide +kernel
theorem dX1_copyFrom_11 : decode cX1_copyFrom 11 = .ok (.aload_n 1, 1) := by decide +kernel
theorem dX1_copyFrom_12 : decode cX1_copyFrom 12 = .ok (.getfield 15, 3) := by decide +kernel
theorem dX1_copyFrom_15 : decode cX1_copyFrom 15 = .ok (.aload_n 0, 1) := by decide +kernel
theorem dX1_copyFrom_16 : decode cX1_copyFrom 16 = .ok (.getfield 15, 3) := by decide +kernel
theorem dX1_copyFrom_19 : decode cX1_copyFrom 19 = .ok (.invokestatic 36, 3) := by decide +kernel
theorem dX1_copyFrom_22 : decode cX1_copyFrom 22 = .ok (.aload_n 1, 1) := by decide +kernel
theorem dX1_copyFrom_23 : decode cX1_copyFrom 23 = .ok (.getfield 18, 3) := by decide +kernel
theorem dX1_copyFrom_26 : decode cX1_copyFrom 26 = .ok (.aload_n 0, 1) := by decide +kernel
theorem dX1_copyFrom_27 : decode cX1_copyFrom 27 = .ok (.getfield 18, 3) := by decide +kernel
theorem dX1_copyFrom_30 : decode cX1_copyFrom 30 = .ok (.invokestatic 36, 3) := by decide +kernel
theorem dX1_copyFrom_33 : decode cX1_copyFrom 33 = .ok (.aload_n 1, 1) := by decide +kernel
theorem dX1_copyFrom_34 : decode cX1_copyFrom 34 = .ok (.getfield 21, 3) := by decide +kernel
theorem dX1_copyFrom_37 : decode cX1_copyFrom 37 = .ok (.aload_n 0, 1) := by decide +kernel
theorem dX1_copyFrom_38 : decode cX1_copyFrom 38 = .ok (.getfield 21, 3) := by decide +kernel
theorem dX1_copyFrom_41 : decode cX1_copyFrom 41 = .ok (.invokestatic 36, 3) := by decide +kernel
theorem dX1_copyFrom_44 : decode cX1_copyFrom 44 = .ok (.aload_n 1, 1) := by decide +kernel
theorem dX1_copyFrom_45 : decode cX1_copyFrom 45 = .ok (.getfield 24, 3) := by decide +kernel
theorem dX1_copyFrom_48 : decode cX1_copyFrom 48 = .ok (.aload_n 0, 1) := by decide +kernel
theorem dX1_copyFrom_49 : decode cX1_copyFrom 49 = .ok (.getfield 24, 3) := by decide +kernel
theorem dX1_copyFrom_52 : decode cX1_copyFrom 52 = .ok (.invokestatic 36, 3) := by decide +kernel
theorem dX1_copyFrom_55 : decode cX1_copyFrom 55 = .ok (.aload_n 1, 1) := by decide +kernel
theorem dX1_copyFrom_56 : decode cX1_copyFrom 56 = .ok (.getfield 27, 3) := by decide +kernel
theorem dX1_copyFrom_59 : decode cX1_copyFrom 59 = .ok (.aload_n 0, 1) := by decide +kernel
theorem dX1_copyFrom_60 : decode cX1_copyFrom 60 = .ok (.getfield 27, 3) := by decide +kernel
theorem dX1_copyFrom_63 : decode cX1_copyFrom 63 = .ok (.invokestatic 36, 3) := by decide +kernel
theorem dX1_copyFrom_66 : decode cX1_copyFrom 66 = .ok (.aload_n 1, 1) := by decide +kernel
theorem dX1_copyFrom_67 : decode cX1_copyFrom 67 = .ok (.getfield 30, 3) := by decide +kernel
theorem dX1_copyFrom_70 : decode cX1_copyFrom 70 = .ok (.aload_n 0, 1) := by decide +kernel
theorem dX1_copyFrom_71 : decode cX1_copyFrom 71 = .ok (.getfield 30, 3) := by decide +kernel
theorem dX1_copyFrom_74 : decode cX1_copyFrom 74 = .ok (.invokestatic 36, 3) := by decide +kernel
theorem dX1_copyFrom_77 : decode cX1_copyFrom 77 = .ok (.aload_n 1, 1) := by decide +kernel
theorem dX1_copyFrom_78 : decode cX1_copyFrom 78 = .ok (.getfield 33, 3) := by decide +kernel
theorem dX1_copyFrom_81 : decode cX1_copyFrom 81 = .ok (.aload_n 0, 1) := by decide +kernel
theorem dX1_copyFrom_82 : decode cX1_copyFrom 82 = .ok (.getfield 33, 3) := by decide +kernel
theorem dX1_copyFrom_85 : decode cX1_copyFrom 85 = .ok (.invokestatic 36, 3) := by decide +kernel
theorem dX1_copyFrom_88 : decode cX1_copyFrom 88 = .ok (.aload_n 0, 1) := by decide +kernel
theorem dX1_copyFrom_89 : decode cX1_copyFrom 89 = .ok (.aload_n 1, 1) := by decide +kernel
theorem dX1_copyFrom_90 : decode cX1_copyFrom 90 = .ok (.getfield 40, 3) := by decide +kernel
theorem dX1_copyFrom_93 : decode cX1_copyFrom 93 = .ok (.putfield 40, 3) := by decide +kernel
theorem dX1_copyFrom_96 : decode cX1_copyFrom 96 = .ok (.aload_n 0, 1) := by decide +kernel
theorem dX1_copyFrom_97 : decode cX1_copyFrom 97 = .ok (.aload_n 1, 1) := by decide +kernel
theorem dX1_copyFrom_98 : decode cX1_copyFrom 98 = .ok (.getfield 44, 3) := by decide +kernel
theorem dX1_copyFrom_101 : decode cX1_copyFrom 101 = .ok (.putfield 44, 3) := by decide +kernel
theorem dX1_copyFrom_104 : decode cX1_copyFrom 104 = .ok (.return_, 1) := by decide +kernel
theorem dX1_has_0 : decode cX1_has 0 = .ok (.iload_n 1, 1) := by decide +kernel
theorem dX1_has_1 : decode cX1_has 1 = .ok (.ifCond .lt 15, 3) := by decide +kernel
theorem dX1_has_4 : decode cX1_has 4 = .ok (.iload_n 1, 1) := by decide +kernel
theorem dX1_has_5 : decode cX1_has 5 = .ok (.aload_n 0, 1) := by decide +kernel
theorem dX1_has_6 : decode cX1_has 6 = .ok (.getfield 40, 3) := by decide +kernel
theorem dX1_has_9 : decode cX1_has 9 = .ok (.if_icmp .ge 7, 3) := by decide +kernel
theorem dX1_has_12 : decode cX1_has 12 = .ok (.iconst 1, 1) := by decide +kernel
theorem dX1_has_13 : decode cX1_has 13 = .ok (.goto 4, 3) := by decide +kernel
theorem dX1_has_16 : decode cX1_has 16 = .ok (.iconst 0, 1) := by decide +kernel
theorem dX1_has_17 : decode cX1_has 17 = .ok (.ireturn, 1) := by decide +kernel
theorem dX1_isResolved_0 : decode cX1_isResolved 0 = .ok (.aload_n 0, 1) := by decide +kernel
theorem dX1_isResolved_1 : decode cX1_isResolved 1 = .ok (.getfield 24, 3) := by decide +kernel
theorem dX1_isResolved_4 : decode cX1_isResolved 4 = .ok (.iload_n 1, 1) := by decide +kernel
theorem dX1_isResolved_5 : decode cX1_isResolved 5 = .ok (.iaload, 1) := by decide +kernel
theorem dX1_isResolved_6 : decode cX1_isResolved 6 = .ok (.iconst 2, 1) := by decide +kernel
theorem dX1_isResolved_7 : decode cX1_isResolved 7 = .ok (.if_icmp .lt 7, 3) := by decide +kernel
theorem dX1_isResolved_10 : decode cX1_isResolved 10 = .ok (.iconst 1, 1) := by decide +kernel
theorem dX1_isResolved_11 : decode cX1_isResolved 11 = .ok (.goto 4, 3) := by decide +kernel
theorem dX1_isResolved_14 : decode cX1_isResolved 14 = .ok (.iconst 0, 1) := by decide +kernel
theorem dX1_isResolved_15 : decode cX1_isResolved 15 = .ok (.ireturn, 1) := by decide +kernel
theorem dX1_gaveValue_0 : decode cX1_gaveValue 0 = .ok (.aload_n 0, 1) := by decide +kernel
theorem dX1_gaveValue_1 : decode cX1_gaveValue 1 = .ok (.getfield 24, 3) := by decide +kernel
theorem dX1_gaveValue_4 : decode cX1_gaveValue 4 = .ok (.iload_n 1, 1) := by decide +kernel
theorem dX1_gaveValue_5 : decode cX1_gaveValue 5 = .ok (.iaload, 1) := by decide +kernel
theorem dX1_gaveValue_6 : decode cX1_gaveValue 6 = .ok (.iconst 2, 1) := by decide +kernel
theorem dX1_gaveValue_7 : decode cX1_gaveValue 7 = .ok (.if_icmp .eq 13, 3) := by decide +kernel
theorem dX1_gaveValue_10 : decode cX1_gaveValue 10 = .ok (.aload_n 0, 1) := by decide +kernel
theorem dX1_gaveValue_11 : decode cX1_gaveValue 11 = .ok (.getfield 24, 3) := by decide +kernel
theorem dX1_gaveValue_14 : decode cX1_gaveValue 14 = .ok (.iload_n 1, 1) := by decide +kernel
theorem dX1_gaveValue_15 : decode cX1_gaveValue 15 = .ok (.iaload, 1) := by decide +kernel
theorem dX1_gaveValue_16 : decode cX1_gaveValue 16 = .ok (.iconst 3, 1) := by decide +kernel
theorem dX1_gaveValue_17 : decode cX1_gaveValue 17 = .ok (.if_icmp .ne 7, 3) := by decide +kernel
theorem dX1_gaveValue_20 : decode cX1_gaveValue 20 = .ok (.iconst 1, 1) := by decide +kernel
theorem dX1_gaveValue_21 : decode cX1_gaveValue 21 = .ok (.goto 4, 3) := by decide +kernel
theorem dX1_gaveValue_24 : decode cX1_gaveValue 24 = .ok (.iconst 0, 1) := by decide +kernel
theorem dX1_gaveValue_25 : decode cX1_gaveValue 25 = .ok (.ireturn, 1) := by decide +kernel
theorem dX1_append_0 : decode cX1_append 0 = .ok (.aload_n 0, 1) := by decide +kernel
theorem dX1_append_1 : decode cX1_append 1 = .ok (.getfield 40, 3) := by decide +kernel
theorem dX1_append_4 : decode cX1_append 4 = .ok (.bipush 30, 2) := by decide +kernel
theorem dX1_append_6 : decode cX1_append 6 = .ok (.if_icmp .lt 5, 3) := by decide +kernel
theorem dX1_append_9 : decode cX1_append 9 = .ok (.iconst (-1), 1) := by decide +kernel
theorem dX1_append_10 : decode cX1_append 10 = .ok (.ireturn, 1) := by decide +kernel
theorem dX1_append_11 : decode cX1_append 11 = .ok (.aload_n 0, 1) := by decide +kernel
theorem dX1_append_12 : decode cX1_append 12 = .ok (.getfield 9, 3) := by decide +kernel
theorem dX1_append_15 : decode cX1_append 15 = .ok (.aload_n 0, 1) := by decide +kernel
theorem dX1_append_16 : decode cX1_append 16 = .ok (.getfield 40, 3) := by decide +kernel
theorem dX1_append_19 : decode cX1_append 19 = .ok (.iload_n 1, 1) := by decide +kernel
theorem dX1_append_20 : decode cX1_append 20 = .ok (.iastore, 1) := by decide +kernel
theorem dX1_append_21 : decode cX1_append 21 = .ok (.aload_n 0, 1) := by decide +kernel
theorem dX1_append_22 : decode cX1_append 22 = .ok (.getfield 15, 3) := by decide +kernel
theorem dX1_append_25 : decode cX1_append 25 = .ok (.aload_n 0, 1) := by decide +kernel
theorem dX1_append_26 : decode cX1_append 26 = .ok (.getfield 40, 3) := by decide +kernel
theorem dX1_append_29 : decode cX1_append 29 = .ok (.iload_n 2, 1) := by decide +kernel
theorem dX1_append_30 : decode cX1_append 30 = .ok (.iastore, 1) := by decide +kernel
theorem dX1_append_31 : decode cX1_append 31 = .ok (.aload_n 0, 1) := by decide +kernel
theorem dX1_append_32 : decode cX1_append 32 = .ok (.getfield 18, 3) := by decide +kernel
theorem dX1_append_35 : decode cX1_append 35 = .ok (.aload_n 0, 1) := by decide +kernel
theorem dX1_append_36 : decode cX1_append 36 = .ok (.getfield 40, 3) := by decide +kernel
theorem dX1_append_39 : decode cX1_append 39 = .ok (.iload_n 3, 1) := by decide +kernel
theorem dX1_append_40 : decode cX1_append 40 = .ok (.iastore, 1) := by decide +kernel
theorem dX1_append_41 : decode cX1_append 41 = .ok (.aload_n 0, 1) := by decide +kernel
theorem dX1_append_42 : decode cX1_append 42 = .ok (.getfield 21, 3) := by decide +kernel
theorem dX1_append_45 : decode cX1_append 45 = .ok (.aload_n 0, 1) := by decide +kernel
theorem dX1_append_46 : decode cX1_append 46 = .ok (.getfield 40, 3) := by decide +kernel
theorem dX1_append_49 : decode cX1_append 49 = .ok (.iload 4, 2) := by decide +kernel
theorem dX1_append_51 : decode cX1_append 51 = .ok (.iastore, 1) := by decide +kernel
theorem dX1_append_52 : decode cX1_append 52 = .ok (.aload_n 0, 1) := by decide +kernel
theorem dX1_append_53 : decode cX1_append 53 = .ok (.getfield 24, 3) := by decide +kernel
theorem dX1_append_56 : decode cX1_append 56 = .ok (.aload_n 0, 1) := by decide +kernel
theorem dX1_append_57 : decode cX1_append 57 = .ok (.getfield 40, 3) := by decide +kernel
theorem dX1_append_60 : decode cX1_append 60 = .ok (.iconst 0, 1) := by decide +kernel
theorem dX1_append_61 : decode cX1_append 61 = .ok (.iastore, 1) := by decide +kernel
theorem dX1_append_62 : decode cX1_append 62 = .ok (.aload_n 0, 1) := by decide +kernel
theorem dX1_append_63 : decode cX1_append 63 = .ok (.dup, 1) := by decide +kernel
theorem dX1_append_64 : decode cX1_append 64 = .ok (.getfield 40, 3) := by decide +kernel
theorem dX1_append_67 : decode cX1_append 67 = .ok (.iconst 1, 1) := by decide +kernel
theorem dX1_append_68 : decode cX1_append 68 = .ok (.iadd, 1) := by decide +kernel
theorem dX1_append_69 : decode cX1_append 69 = .ok (.putfield 40, 3) := by decide +kernel
theorem dX1_append_72 : decode cX1_append 72 = .ok (.aload_n 0, 1) := by decide +kernel
theorem dX1_append_73 : decode cX1_append 73 = .ok (.getfield 40, 3) := by decide +kernel
theorem dX1_append_76 : decode cX1_append 76 = .ok (.iconst 1, 1) := by decide +kernel
theorem dX1_append_77 : decode cX1_append 77 = .ok (.isub, 1) := by decide +kernel
theorem dX1_append_78 : decode cX1_append 78 = .ok (.ireturn, 1) := by decide +kernel
theorem dX1_makeAllPending_0 : decode cX1_makeAllPending 0 = .ok (.iconst 0, 1) := by decide +kernel
theorem dX1_makeAllPending_1 : decode cX1_makeAllPending 1 = .ok (.istore_n 1, 1) := by decide +kernel
theorem dX1_makeAllPending_2 : decode cX1_makeAllPending 2 = .ok (.iload_n 1, 1) := by decide +kernel
theorem dX1_makeAllPending_3 : decode cX1_makeAllPending 3 = .ok (.aload_n 0, 1) := by decide +kernel
theorem dX1_makeAllPending_4 : decode cX1_makeAllPending 4 = .ok (.getfield 40, 3) := by decide +kernel
theorem dX1_makeAllPending_7 : decode cX1_makeAllPending 7 = .ok (.if_icmp .ge 16, 3) := by decide +kernel
theorem dX1_makeAllPending_10 : decode cX1_makeAllPending 10 = .ok (.aload_n 0, 1) := by decide +kernel
theorem dX1_makeAllPending_11 : decode cX1_makeAllPending 11 = .ok (.getfield 24, 3) := by decide +kernel
theorem dX1_makeAllPending_14 : decode cX1_makeAllPending 14 = .ok (.iload_n 1, 1) := by decide +kernel
theorem dX1_makeAllPending_15 : decode cX1_makeAllPending 15 = .ok (.iconst 1, 1) := by decide +kernel
theorem dX1_makeAllPending_16 : decode cX1_makeAllPending 16 = .ok (.iastore, 1) := by decide +kernel
theorem dX1_makeAllPending_17 : decode cX1_makeAllPending 17 = .ok (.iinc 1 1, 3) := by decide +kernel
theorem dX1_makeAllPending_20 : decode cX1_makeAllPending 20 = .ok (.goto (-18), 3) := by decide +kernel
theorem dX1_makeAllPending_23 : decode cX1_makeAllPending 23 = .ok (.return_, 1) := by decide +kernel
theorem dX1_pending_0 : decode cX1_pending 0 = .ok (.iconst 0, 1) := by decide +kernel
theorem dX1_pending_1 : decode cX1_pending 1 = .ok (.istore_n 1, 1) := by decide +kernel
theorem dX1_pending_2 : decode cX1_pending 2 = .ok (.iconst 0, 1) := by decide +kernel
theorem dX1_pending_3 : decode cX1_pending 3 = .ok (.istore_n 2, 1) := by decide +kernel
theorem dX1_pending_4 : decode cX1_pending 4 = .ok (.iload_n 2, 1) := by decide +kernel
theorem dX1_pending_5 : decode cX1_pending 5 = .ok (.aload_n 0, 1) := by decide +kernel
theorem dX1_pending_6 : decode cX1_pending 6 = .ok (.getfield 40, 3) := by decide +kernel
theorem dX1_pending_9 : decode cX1_pending 9 = .ok (.if_icmp .ge 22, 3) := by decide +kernel
theorem dX1_pending_12 : decode cX1_pending 12 = .ok (.aload_n 0, 1) := by decide +kernel
theorem dX1_pending_13 : decode cX1_pending 13 = .ok (.getfield 24, 3) := by decide +kernel
theorem dX1_pending_16 : decode cX1_pending 16 = .ok (.iload_n 2, 1) := by decide +kernel
theorem dX1_pending_17 : decode cX1_pending 17 = .ok (.iaload, 1) := by decide +kernel
theorem dX1_pending_18 : decode cX1_pending 18 = .ok (.iconst 1, 1) := by decide +kernel
theorem dX1_pending_19 : decode cX1_pending 19 = .ok (.if_icmp .ne 6, 3) := by decide +kernel
theorem dX1_pending_22 : decode cX1_pending 22 = .ok (.iinc 1 1, 3) := by decide +kernel
theorem dX1_pending_25 : decode cX1_pending 25 = .ok (.iinc 2 1, 3) := by decide +kernel
theorem dX1_pending_28 : decode cX1_pending 28 = .ok (.goto (-24), 3) := by decide +kernel
theorem dX1_pending_31 : decode cX1_pending 31 = .ok (.iload_n 1, 1) := by decide +kernel
theorem dX1_pending_32 : decode cX1_pending 32 = .ok (.ireturn, 1) := by decide +kernel
theorem dX1_numberOf_0 : decode cX1_numberOf 0 = .ok (.iconst 0, 1) := by decide +kernel
theorem dX1_numberOf_1 : decode cX1_numberOf 1 = .ok (.istore_n 2, 1) := by decide +kernel
theorem dX1_numberOf_2 : decode cX1_numberOf 2 = .ok (.iconst 0, 1) := by decide +kernel
theorem dX1_numberOf_3 : decode cX1_numberOf 3 = .ok (.istore_n 3, 1) := by decide +kernel
theorem dX1_numberOf_4 : decode cX1_numberOf 4 = .ok (.iload_n 3, 1) := by decide +kernel
theorem dX1_numberOf_5 : decode cX1_numberOf 5 = .ok (.aload_n 0, 1) := by decide +kernel
theorem dX1_numberOf_6 : decode cX1_numberOf 6 = .ok (.getfield 40, 3) := by decide +kernel
theorem dX1_numberOf_9 : decode cX1_numberOf 9 = .ok (.if_icmp .ge 22, 3) := by decide +kernel
theorem dX1_numberOf_12 : decode cX1_numberOf 12 = .ok (.aload_n 0, 1) := by decide +kernel
theorem dX1_numberOf_13 : decode cX1_numberOf 13 = .ok (.getfield 9, 3) := by decide +kernel
theorem dX1_numberOf_16 : decode cX1_numberOf 16 = .ok (.iload_n 3, 1) := by decide +kernel
theorem dX1_numberOf_17 : decode cX1_numberOf 17 = .ok (.iaload, 1) := by decide +kernel
theorem dX1_numberOf_18 : decode cX1_numberOf 18 = .ok (.iload_n 1, 1) := by decide +kernel
theorem dX1_numberOf_19 : decode cX1_numberOf 19 = .ok (.if_icmp .ne 6, 3) := by decide +kernel
theorem dX1_numberOf_22 : decode cX1_numberOf 22 = .ok (.iinc 2 1, 3) := by decide +kernel
theorem dX1_numberOf_25 : decode cX1_numberOf 25 = .ok (.iinc 3 1, 3) := by decide +kernel
theorem dX1_numberOf_28 : decode cX1_numberOf 28 = .ok (.goto (-24), 3) := by decide +kernel
theorem dX1_numberOf_31 : decode cX1_numberOf 31 = .ok (.iload_n 2, 1) := by decide +kernel
theorem dX1_numberOf_32 : decode cX1_numberOf 32 = .ok (.ireturn, 1) := by decide +kernel
theorem dX1_hasTechnicalOf_0 : decode cX1_hasTechnicalOf 0 = .ok (.iconst 0, 1) := by decide +kernel
theorem dX1_hasTechnicalOf_1 : decode cX1_hasTechnicalOf 1 = .ok (.istore_n 2, 1) := by decide +kernel
theorem dX1_hasTechnicalOf_2 : decode cX1_hasTechnicalOf 2 = .ok (.iload_n 2, 1) := by decide +kernel
theorem dX1_hasTechnicalOf_3 : decode cX1_hasTechnicalOf 3 = .ok (.aload_n 0, 1) := by decide +kernel
theorem dX1_hasTechnicalOf_4 : decode cX1_hasTechnicalOf 4 = .ok (.getfield 40, 3) := by decide +kernel
theorem dX1_hasTechnicalOf_7 : decode cX1_hasTechnicalOf 7 = .ok (.if_icmp .ge 31, 3) := by decide +kernel
theorem dX1_hasTechnicalOf_10 : decode cX1_hasTechnicalOf 10 = .ok (.aload_n 0, 1) := by decide +kernel
theorem dX1_hasTechnicalOf_11 : decode cX1_hasTechnicalOf 11 = .ok (.getfield 9, 3) := by decide +kernel
theorem dX1_hasTechnicalOf_14 : decode cX1_hasTechnicalOf 14 = .ok (.iload_n 2, 1) := by decide +kernel
theorem dX1_hasTechnicalOf_15 : decode cX1_hasTechnicalOf 15 = .ok (.iaload, 1) := by decide +kernel
theorem dX1_hasTechnicalOf_16 : decode cX1_hasTechnicalOf 16 = .ok (.iload_n 1, 1) := by decide +kernel
theorem dX1_hasTechnicalOf_17 : decode cX1_hasTechnicalOf 17 = .ok (.if_icmp .ne 15, 3) := by decide +kernel
theorem dX1_hasTechnicalOf_20 : decode cX1_hasTechnicalOf 20 = .ok (.aload_n 0, 1) := by decide +kernel
theorem dX1_hasTechnicalOf_21 : decode cX1_hasTechnicalOf 21 = .ok (.getfield 18, 3) := by decide +kernel
theorem dX1_hasTechnicalOf_24 : decode cX1_hasTechnicalOf 24 = .ok (.iload_n 2, 1) := by decide +kernel
theorem dX1_hasTechnicalOf_25 : decode cX1_hasTechnicalOf 25 = .ok (.iaload, 1) := by decide +kernel
theorem dX1_hasTechnicalOf_26 : decode cX1_hasTechnicalOf 26 = .ok (.iconst 1, 1) := by decide +kernel
theorem dX1_hasTechnicalOf_27 : decode cX1_hasTechnicalOf 27 = .ok (.if_icmp .ne 5, 3) := by decide +kernel
theorem dX1_hasTechnicalOf_30 : decode cX1_hasTechnicalOf 30 = .ok (.iconst 1, 1) := by decide +kernel
theorem dX1_hasTechnicalOf_31 : decode cX1_hasTechnicalOf 31 = .ok (.ireturn, 1) := by decide +kernel
theorem dX1_hasTechnicalOf_32 : decode cX1_hasTechnicalOf 32 = .ok (.iinc 2 1, 3) := by decide +kernel
theorem dX1_hasTechnicalOf_35 : decode cX1_hasTechnicalOf 35 = .ok (.goto (-33), 3) := by decide +kernel
theorem dX1_hasTechnicalOf_38 : decode cX1_hasTechnicalOf 38 = .ok (.iconst 0, 1) := by decide +kernel
theorem dX1_hasTechnicalOf_39 : decode cX1_hasTechnicalOf 39 = .ok (.ireturn, 1) := by decide +kernel
theorem dX1_firstPending_0 : decode cX1_firstPending 0 = .ok (.iconst (-1), 1) := by decide +kernel
theorem dX1_firstPending_1 : decode cX1_firstPending 1 = .ok (.istore_n 2, 1) := by decide +kernel
theorem dX1_firstPending_2 : decode cX1_firstPending 2 = .ok (.iconst 0, 1) := by decide +kernel
theorem dX1_firstPending_3 : decode cX1_firstPending 3 = .ok (.istore_n 3, 1) := by decide +kernel
theorem dX1_firstPending_4 : decode cX1_firstPending 4 = .ok (.iload_n 3, 1) := by decide +kernel
theorem dX1_firstPending_5 : decode cX1_firstPending 5 = .ok (.aload_n 0, 1) := by decide +kernel
theorem dX1_firstPending_6 : decode cX1_firstPending 6 = .ok (.getfield 40, 3) := by decide +kernel
theorem dX1_firstPending_9 : decode cX1_firstPending 9 = .ok (.if_icmp .ge 36, 3) := by decide +kernel
theorem dX1_firstPending_12 : decode cX1_firstPending 12 = .ok (.aload_n 0, 1) := by decide +kernel
theorem dX1_firstPending_13 : decode cX1_firstPending 13 = .ok (.getfield 24, 3) := by decide +kernel
theorem dX1_firstPending_16 : decode cX1_firstPending 16 = .ok (.iload_n 3, 1) := by decide +kernel
theorem dX1_firstPending_17 : decode cX1_firstPending 17 = .ok (.iaload, 1) := by decide +kernel
theorem dX1_firstPending_18 : decode cX1_firstPending 18 = .ok (.iconst 1, 1) := by decide +kernel
theorem dX1_firstPending_19 : decode cX1_firstPending 19 = .ok (.if_icmp .ne 20, 3) := by decide +kernel
theorem dX1_firstPending_22 : decode cX1_firstPending 22 = .ok (.iload_n 2, 1) := by decide +kernel
theorem dX1_firstPending_23 : decode cX1_firstPending 23 = .ok (.iconst (-1), 1) := by decide +kernel
theorem dX1_firstPending_24 : decode cX1_firstPending 24 = .ok (.if_icmp .eq 13, 3) := by decide +kernel
theorem dX1_firstPending_27 : decode cX1_firstPending 27 = .ok (.aload_n 0, 1) := by decide +kernel
theorem dX1_firstPending_28 : decode cX1_firstPending 28 = .ok (.iload_n 3, 1) := by decide +kernel
theorem dX1_firstPending_29 : decode cX1_firstPending 29 = .ok (.iload_n 2, 1) := by decide +kernel
theorem dX1_firstPending_30 : decode cX1_firstPending 30 = .ok (.aload_n 1, 1) := by decide +kernel
theorem dX1_firstPending_31 : decode cX1_firstPending 31 = .ok (.invokevirtual 47, 3) := by decide +kernel
theorem dX1_firstPending_34 : decode cX1_firstPending 34 = .ok (.ifCond .eq 5, 3) := by decide +kernel
theorem dX1_firstPending_37 : decode cX1_firstPending 37 = .ok (.iload_n 3, 1) := by decide +kernel
theorem dX1_firstPending_38 : decode cX1_firstPending 38 = .ok (.istore_n 2, 1) := by decide +kernel
theorem dX1_firstPending_39 : decode cX1_firstPending 39 = .ok (.iinc 3 1, 3) := by decide +kernel
theorem dX1_firstPending_42 : decode cX1_firstPending 42 = .ok (.goto (-38), 3) := by decide +kernel
theorem dX1_firstPending_45 : decode cX1_firstPending 45 = .ok (.iload_n 2, 1) := by decide +kernel
theorem dX1_firstPending_46 : decode cX1_firstPending 46 = .ok (.ireturn, 1) := by decide +kernel
theorem dX1_isAhead_0 : decode cX1_isAhead 0 = .ok (.aload_n 0, 1) := by decide +kernel
theorem dX1_isAhead_1 : decode cX1_isAhead 1 = .ok (.getfield 18, 3) := by decide +kernel
theorem dX1_isAhead_4 : decode cX1_isAhead 4 = .ok (.iload_n 1, 1) := by decide +kernel
theorem dX1_isAhead_5 : decode cX1_isAhead 5 = .ok (.iaload, 1) := by decide +kernel
theorem dX1_isAhead_6 : decode cX1_isAhead 6 = .ok (.aload_n 0, 1) := by decide +kernel
theorem dX1_isAhead_7 : decode cX1_isAhead 7 = .ok (.getfield 18, 3) := by decide +kernel
theorem dX1_isAhead_10 : decode cX1_isAhead 10 = .ok (.iload_n 2, 1) := by decide +kernel
theorem dX1_isAhead_11 : decode cX1_isAhead 11 = .ok (.iaload, 1) := by decide +kernel
theorem dX1_isAhead_12 : decode cX1_isAhead 12 = .ok (.if_icmp .eq 19, 3) := by decide +kernel
theorem dX1_isAhead_15 : decode cX1_isAhead 15 = .ok (.aload_n 0, 1) := by decide +kernel
theorem dX1_isAhead_16 : decode cX1_isAhead 16 = .ok (.getfield 18, 3) := by decide +kernel
theorem dX1_isAhead_19 : decode cX1_isAhead 19 = .ok (.iload_n 1, 1) := by decide +kernel
theorem dX1_isAhead_20 : decode cX1_isAhead 20 = .ok (.iaload, 1) := by decide +kernel
theorem dX1_isAhead_21 : decode cX1_isAhead 21 = .ok (.iconst 1, 1) := by decide +kernel
theorem dX1_isAhead_22 : decode cX1_isAhead 22 = .ok (.if_icmp .ne 7, 3) := by decide +kernel
theorem dX1_isAhead_25 : decode cX1_isAhead 25 = .ok (.iconst 1, 1) := by decide +kernel
theorem dX1_isAhead_26 : decode cX1_isAhead 26 = .ok (.goto 4, 3) := by decide +kernel
theorem dX1_isAhead_29 : decode cX1_isAhead 29 = .ok (.iconst 0, 1) := by decide +kernel
theorem dX1_isAhead_30 : decode cX1_isAhead 30 = .ok (.ireturn, 1) := by decide +kernel
theorem dX1_isAhead_31 : decode cX1_isAhead 31 = .ok (.aload_n 0, 1) := by decide +kernel
theorem dX1_isAhead_32 : decode cX1_isAhead 32 = .ok (.getfield 15, 3) := by decide +kernel
theorem dX1_isAhead_35 : decode cX1_isAhead 35 = .ok (.iload_n 1, 1) := by decide +kernel
theorem dX1_isAhead_36 : decode cX1_isAhead 36 = .ok (.iaload, 1) := by decide +kernel
theorem dX1_isAhead_37 : decode cX1_isAhead 37 = .ok (.aload_n 0, 1) := by decide +kernel
theorem dX1_isAhead_38 : decode cX1_isAhead 38 = .ok (.getfield 15, 3) := by decide +kernel
theorem dX1_isAhead_41 : decode cX1_isAhead 41 = .ok (.iload_n 2, 1) := by decide +kernel
theorem dX1_isAhead_42 : decode cX1_isAhead 42 = .ok (.iaload, 1) := by decide +kernel
theorem dX1_isAhead_43 : decode cX1_isAhead 43 = .ok (.if_icmp .eq 24, 3) := by decide +kernel
theorem dX1_isAhead_46 : decode cX1_isAhead 46 = .ok (.aload_n 0, 1) := by decide +kernel
theorem dX1_isAhead_47 : decode cX1_isAhead 47 = .ok (.getfield 15, 3) := by decide +kernel
theorem dX1_isAhead_50 : decode cX1_isAhead 50 = .ok (.iload_n 1, 1) := by decide +kernel
theorem dX1_isAhead_51 : decode cX1_isAhead 51 = .ok (.iaload, 1) := by decide +kernel
theorem dX1_isAhead_52 : decode cX1_isAhead 52 = .ok (.aload_n 0, 1) := by decide +kernel
theorem dX1_isAhead_53 : decode cX1_isAhead 53 = .ok (.getfield 15, 3) := by decide +kernel
theorem dX1_isAhead_56 : decode cX1_isAhead 56 = .ok (.iload_n 2, 1) := by decide +kernel
theorem dX1_isAhead_57 : decode cX1_isAhead 57 = .ok (.iaload, 1) := by decide +kernel
theorem dX1_isAhead_58 : decode cX1_isAhead 58 = .ok (.if_icmp .ge 7, 3) := by decide +kernel
theorem dX1_isAhead_61 : decode cX1_isAhead 61 = .ok (.iconst 1, 1) := by decide +kernel
theorem dX1_isAhead_62 : decode cX1_isAhead 62 = .ok (.goto 4, 3) := by decide +kernel
theorem dX1_isAhead_65 : decode cX1_isAhead 65 = .ok (.iconst 0, 1) := by decide +kernel
theorem dX1_isAhead_66 : decode cX1_isAhead 66 = .ok (.ireturn, 1) := by decide +kernel
theorem dX1_isAhead_67 : decode cX1_isAhead 67 = .ok (.aload_n 3, 1) := by decide +kernel
theorem dX1_isAhead_68 : decode cX1_isAhead 68 = .ok (.getfield 51, 3) := by decide +kernel
theorem dX1_isAhead_71 : decode cX1_isAhead 71 = .ok (.aload_n 0, 1) := by decide +kernel
theorem dX1_isAhead_72 : decode cX1_isAhead 72 = .ok (.getfield 9, 3) := by decide +kernel
theorem dX1_isAhead_75 : decode cX1_isAhead 75 = .ok (.iload_n 1, 1) := by decide +kernel
theorem dX1_isAhead_76 : decode cX1_isAhead 76 = .ok (.iaload, 1) := by decide +kernel
theorem dX1_isAhead_77 : decode cX1_isAhead 77 = .ok (.iaload, 1) := by decide +kernel
theorem dX1_isAhead_78 : decode cX1_isAhead 78 = .ok (.aload_n 3, 1) := by decide +kernel
theorem dX1_isAhead_79 : decode cX1_isAhead 79 = .ok (.getfield 51, 3) := by decide +kernel
theorem dX1_isAhead_82 : decode cX1_isAhead 82 = .ok (.aload_n 0, 1) := by decide +kernel
theorem dX1_isAhead_83 : decode cX1_isAhead 83 = .ok (.getfield 9, 3) := by decide +kernel
theorem dX1_isAhead_86 : decode cX1_isAhead 86 = .ok (.iload_n 2, 1) := by decide +kernel
theorem dX1_isAhead_87 : decode cX1_isAhead 87 = .ok (.iaload, 1) := by decide +kernel
theorem dX1_isAhead_88 : decode cX1_isAhead 88 = .ok (.iaload, 1) := by decide +kernel
theorem dX1_isAhead_89 : decode cX1_isAhead 89 = .ok (.if_icmp .le 7, 3) := by decide +kernel
theorem dX1_isAhead_92 : decode cX1_isAhead 92 = .ok (.iconst 1, 1) := by decide +kernel
theorem dX1_isAhead_93 : decode cX1_isAhead 93 = .ok (.goto 4, 3) := by decide +kernel
theorem dX1_isAhead_96 : decode cX1_isAhead 96 = .ok (.iconst 0, 1) := by decide +kernel
theorem dX1_isAhead_97 : decode cX1_isAhead 97 = .ok (.ireturn, 1) := by decide +kernel
theorem dX1_resolveAs_0 : decode cX1_resolveAs 0 = .ok (.aload_n 0, 1) := by decide +kernel
theorem dX1_resolveAs_1 : decode cX1_resolveAs 1 = .ok (.getfield 24, 3) := by decide +kernel
theorem dX1_resolveAs_4 : decode cX1_resolveAs 4 = .ok (.iload_n 1, 1) := by decide +kernel
theorem dX1_resolveAs_5 : decode cX1_resolveAs 5 = .ok (.iconst 2, 1) := by decide +kernel
theorem dX1_resolveAs_6 : decode cX1_resolveAs 6 = .ok (.iload_n 2, 1) := by decide +kernel
theorem dX1_resolveAs_7 : decode cX1_resolveAs 7 = .ok (.iadd, 1) := by decide +kernel
theorem dX1_resolveAs_8 : decode cX1_resolveAs 8 = .ok (.iastore, 1) := by decide +kernel
theorem dX1_resolveAs_9 : decode cX1_resolveAs 9 = .ok (.aload_n 0, 1) := by decide +kernel
theorem dX1_resolveAs_10 : decode cX1_resolveAs 10 = .ok (.getfield 27, 3) := by decide +kernel
theorem dX1_resolveAs_13 : decode cX1_resolveAs 13 = .ok (.iload_n 1, 1) := by decide +kernel
theorem dX1_resolveAs_14 : decode cX1_resolveAs 14 = .ok (.iload 4, 2) := by decide +kernel
theorem dX1_resolveAs_16 : decode cX1_resolveAs 16 = .ok (.iastore, 1) := by decide +kernel
theorem dX1_resolveAs_17 : decode cX1_resolveAs 17 = .ok (.aload_n 0, 1) := by decide +kernel
theorem dX1_resolveAs_18 : decode cX1_resolveAs 18 = .ok (.getfield 30, 3) := by decide +kernel
theorem dX1_resolveAs_21 : decode cX1_resolveAs 21 = .ok (.iload_n 1, 1) := by decide +kernel
theorem dX1_resolveAs_22 : decode cX1_resolveAs 22 = .ok (.iload_n 3, 1) := by decide +kernel
theorem dX1_resolveAs_23 : decode cX1_resolveAs 23 = .ok (.iastore, 1) := by decide +kernel
theorem dX1_resolveAs_24 : decode cX1_resolveAs 24 = .ok (.aload_n 0, 1) := by decide +kernel
theorem dX1_resolveAs_25 : decode cX1_resolveAs 25 = .ok (.getfield 33, 3) := by decide +kernel
theorem dX1_resolveAs_28 : decode cX1_resolveAs 28 = .ok (.iload_n 1, 1) := by decide +kernel
theorem dX1_resolveAs_29 : decode cX1_resolveAs 29 = .ok (.aload_n 0, 1) := by decide +kernel
theorem dX1_resolveAs_30 : decode cX1_resolveAs 30 = .ok (.getfield 44, 3) := by decide +kernel
theorem dX1_resolveAs_33 : decode cX1_resolveAs 33 = .ok (.iastore, 1) := by decide +kernel
theorem dX1_resolveAs_34 : decode cX1_resolveAs 34 = .ok (.aload_n 0, 1) := by decide +kernel
theorem dX1_resolveAs_35 : decode cX1_resolveAs 35 = .ok (.dup, 1) := by decide +kernel
theorem dX1_resolveAs_36 : decode cX1_resolveAs 36 = .ok (.getfield 44, 3) := by decide +kernel
theorem dX1_resolveAs_39 : decode cX1_resolveAs 39 = .ok (.iconst 1, 1) := by decide +kernel
theorem dX1_resolveAs_40 : decode cX1_resolveAs 40 = .ok (.iadd, 1) := by decide +kernel
theorem dX1_resolveAs_41 : decode cX1_resolveAs 41 = .ok (.putfield 44, 3) := by decide +kernel
theorem dX1_resolveAs_44 : decode cX1_resolveAs 44 = .ok (.return_, 1) := by decide +kernel
theorem dX1_firstBehind_0 : decode cX1_firstBehind 0 = .ok (.iconst (-1), 1) := by decide +kernel
theorem dX1_firstBehind_1 : decode cX1_firstBehind 1 = .ok (.istore_n 3, 1) := by decide +kernel
theorem dX1_firstBehind_2 : decode cX1_firstBehind 2 = .ok (.iconst 0, 1) := by decide +kernel
theorem dX1_firstBehind_3 : decode cX1_firstBehind 3 = .ok (.istore 4, 2) := by decide +kernel
theorem dX1_firstBehind_5 : decode cX1_firstBehind 5 = .ok (.iload 4, 2) := by decide +kernel
theorem dX1_firstBehind_7 : decode cX1_firstBehind 7 = .ok (.aload_n 0, 1) := by decide +kernel
theorem dX1_firstBehind_8 : decode cX1_firstBehind 8 = .ok (.getfield 40, 3) := by decide +kernel
theorem dX1_firstBehind_11 : decode cX1_firstBehind 11 = .ok (.if_icmp .ge 64, 3) := by decide +kernel
theorem dX1_firstBehind_14 : decode cX1_firstBehind 14 = .ok (.aload_n 0, 1) := by decide +kernel
theorem dX1_firstBehind_15 : decode cX1_firstBehind 15 = .ok (.getfield 15, 3) := by decide +kernel
theorem dX1_firstBehind_18 : decode cX1_firstBehind 18 = .ok (.iload 4, 2) := by decide +kernel
theorem dX1_firstBehind_20 : decode cX1_firstBehind 20 = .ok (.iaload, 1) := by decide +kernel
theorem dX1_firstBehind_21 : decode cX1_firstBehind 21 = .ok (.iload_n 1, 1) := by decide +kernel
theorem dX1_firstBehind_22 : decode cX1_firstBehind 22 = .ok (.if_icmp .ne 47, 3) := by decide +kernel
theorem dX1_firstBehind_25 : decode cX1_firstBehind 25 = .ok (.aload_n 0, 1) := by decide +kernel
theorem dX1_firstBehind_26 : decode cX1_firstBehind 26 = .ok (.iload 4, 2) := by decide +kernel
theorem dX1_firstBehind_28 : decode cX1_firstBehind 28 = .ok (.invokevirtual 56, 3) := by decide +kernel
theorem dX1_firstBehind_31 : decode cX1_firstBehind 31 = .ok (.ifCond .eq 38, 3) := by decide +kernel
theorem dX1_firstBehind_34 : decode cX1_firstBehind 34 = .ok (.aload_n 0, 1) := by decide +kernel
theorem dX1_firstBehind_35 : decode cX1_firstBehind 35 = .ok (.getfield 30, 3) := by decide +kernel
theorem dX1_firstBehind_38 : decode cX1_firstBehind 38 = .ok (.iload 4, 2) := by decide +kernel
theorem dX1_firstBehind_40 : decode cX1_firstBehind 40 = .ok (.iaload, 1) := by decide +kernel
theorem dX1_firstBehind_41 : decode cX1_firstBehind 41 = .ok (.iload_n 2, 1) := by decide +kernel
theorem dX1_firstBehind_42 : decode cX1_firstBehind 42 = .ok (.if_icmp .ne 27, 3) := by decide +kernel
theorem dX1_firstBehind_45 : decode cX1_firstBehind 45 = .ok (.iload_n 3, 1) := by decide +kernel
theorem dX1_firstBehind_46 : decode cX1_firstBehind 46 = .ok (.iconst (-1), 1) := by decide +kernel
theorem dX1_firstBehind_47 : decode cX1_firstBehind 47 = .ok (.if_icmp .eq 19, 3) := by decide +kernel
theorem dX1_firstBehind_50 : decode cX1_firstBehind 50 = .ok (.aload_n 0, 1) := by decide +kernel
theorem dX1_firstBehind_51 : decode cX1_firstBehind 51 = .ok (.getfield 33, 3) := by decide +kernel
theorem dX1_firstBehind_54 : decode cX1_firstBehind 54 = .ok (.iload 4, 2) := by decide +kernel
theorem dX1_firstBehind_56 : decode cX1_firstBehind 56 = .ok (.iaload, 1) := by decide +kernel
theorem dX1_firstBehind_57 : decode cX1_firstBehind 57 = .ok (.aload_n 0, 1) := by decide +kernel
theorem dX1_firstBehind_58 : decode cX1_firstBehind 58 = .ok (.getfield 33, 3) := by decide +kernel
theorem dX1_firstBehind_61 : decode cX1_firstBehind 61 = .ok (.iload_n 3, 1) := by decide +kernel
theorem dX1_firstBehind_62 : decode cX1_firstBehind 62 = .ok (.iaload, 1) := by decide +kernel
theorem dX1_firstBehind_63 : decode cX1_firstBehind 63 = .ok (.if_icmp .ge 6, 3) := by decide +kernel
theorem dX1_firstBehind_66 : decode cX1_firstBehind 66 = .ok (.iload 4, 2) := by decide +kernel
theorem dX1_firstBehind_68 : decode cX1_firstBehind 68 = .ok (.istore_n 3, 1) := by decide +kernel
theorem dX1_firstBehind_69 : decode cX1_firstBehind 69 = .ok (.iinc 4 1, 3) := by decide +kernel
theorem dX1_firstBehind_72 : decode cX1_firstBehind 72 = .ok (.goto (-67), 3) := by decide +kernel
theorem dX1_firstBehind_75 : decode cX1_firstBehind 75 = .ok (.iload_n 3, 1) := by decide +kernel
theorem dX1_firstBehind_76 : decode cX1_firstBehind 76 = .ok (.ireturn, 1) := by decide +kernel
theorem dX2_init_0 : decode cX2_init 0 = .ok (.aload_n 0, 1) := by decide +kernel
theorem dX2_init_1 : decode cX2_init 1 = .ok (.invokespecial 3, 3) := by decide +kernel
theorem dX2_init_4 : decode cX2_init 4 = .ok (.aload_n 0, 1) := by decide +kernel
theorem dX2_init_5 : decode cX2_init 5 = .ok (.bipush 20, 2) := by decide +kernel
theorem dX2_init_7 : decode cX2_init 7 = .ok (.newarray .int, 2) := by decide +kernel
theorem dX2_init_9 : decode cX2_init 9 = .ok (.putfield 9, 3) := by decide +kernel
theorem dX2_init_12 : decode cX2_init 12 = .ok (.aload_n 0, 1) := by decide +kernel
theorem dX2_init_13 : decode cX2_init 13 = .ok (.bipush 20, 2) := by decide +kernel
theorem dX2_init_15 : decode cX2_init 15 = .ok (.newarray .int, 2) := by decide +kernel
theorem dX2_init_17 : decode cX2_init 17 = .ok (.putfield 15, 3) := by decide +kernel
theorem dX2_init_20 : decode cX2_init 20 = .ok (.aload_n 0, 1) := by decide +kernel
theorem dX2_init_21 : decode cX2_init 21 = .ok (.bipush 20, 2) := by decide +kernel
theorem dX2_init_23 : decode cX2_init 23 = .ok (.newarray .int, 2) := by decide +kernel
theorem dX2_init_25 : decode cX2_init 25 = .ok (.putfield 18, 3) := by decide +kernel
theorem dX2_init_28 : decode cX2_init 28 = .ok (.aload_n 0, 1) := by decide +kernel
theorem dX2_init_29 : decode cX2_init 29 = .ok (.bipush 12, 2) := by decide +kernel
theorem dX2_init_31 : decode cX2_init 31 = .ok (.newarray .int, 2) := by decide +kernel
theorem dX2_init_33 : decode cX2_init 33 = .ok (.putfield 21, 3) := by decide +kernel
theorem dX2_init_36 : decode cX2_init 36 = .ok (.aload_n 0, 1) := by decide +kernel
theorem dX2_init_37 : decode cX2_init 37 = .ok (.sipush 240, 3) := by decide +kernel
theorem dX2_init_40 : decode cX2_init 40 = .ok (.newarray .int, 2) := by decide +kernel
theorem dX2_init_42 : decode cX2_init 42 = .ok (.putfield 24, 3) := by decide +kernel
theorem dX2_init_45 : decode cX2_init 45 = .ok (.aload_n 0, 1) := by decide +kernel
theorem dX2_init_46 : decode cX2_init 46 = .ok (.sipush 240, 3) := by decide +kernel
theorem dX2_init_49 : decode cX2_init 49 = .ok (.newarray .int, 2) := by decide +kernel
theorem dX2_init_51 : decode cX2_init 51 = .ok (.putfield 27, 3) := by decide +kernel
theorem dX2_init_54 : decode cX2_init 54 = .ok (.aload_n 0, 1) := by decide +kernel
theorem dX2_init_55 : decode cX2_init 55 = .ok (.iconst 1, 1) := by decide +kernel
theorem dX2_init_56 : decode cX2_init 56 = .ok (.putfield 30, 3) := by decide +kernel
theorem dX2_init_59 : decode cX2_init 59 = .ok (.return_, 1) := by decide +kernel
theorem dX2_copyFrom_0 : decode cX2_copyFrom 0 = .ok (.aload_n 1, 1) := by decide +kernel
theorem dX2_copyFrom_1 : decode cX2_copyFrom 1 = .ok (.getfield 9, 3) := by decide +kernel
theorem dX2_copyFrom_4 : decode cX2_copyFrom 4 = .ok (.aload_n 0, 1) := by decide +kernel
theorem dX2_copyFrom_5 : decode cX2_copyFrom 5 = .ok (.getfield 9, 3) := by decide +kernel
theorem dX2_copyFrom_8 : decode cX2_copyFrom 8 = .ok (.invokestatic 34, 3) := by decide +kernel
theorem dX2_copyFrom_11 : decode cX2_copyFrom 11 = .ok (.aload_n 1, 1) := by decide +kernel
theorem dX2_copyFrom_12 : decode cX2_copyFrom 12 = .ok (.getfield 15, 3) := by decide +kernel
theorem dX2_copyFrom_15 : decode cX2_copyFrom 15 = .ok (.aload_n 0, 1) := by decide +kernel
theorem dX2_copyFrom_16 : decode cX2_copyFrom 16 = .ok (.getfield 15, 3) := by decide +kernel
theorem dX2_copyFrom_19 : decode cX2_copyFrom 19 = .ok (.invokestatic 34, 3) := by decide +kernel
theorem dX2_copyFrom_22 : decode cX2_copyFrom 22 = .ok (.aload_n 1, 1) := by decide +kernel
theorem dX2_copyFrom_23 : decode cX2_copyFrom 23 = .ok (.getfield 18, 3) := by decide +kernel
theorem dX2_copyFrom_26 : decode cX2_copyFrom 26 = .ok (.aload_n 0, 1) := by decide +kernel
theorem dX2_copyFrom_27 : decode cX2_copyFrom 27 = .ok (.getfield 18, 3) := by decide +kernel
theorem dX2_copyFrom_30 : decode cX2_copyFrom 30 = .ok (.invokestatic 34, 3) := by decide +kernel
theorem dX2_copyFrom_33 : decode cX2_copyFrom 33 = .ok (.aload_n 1, 1) := by decide +kernel
theorem dX2_copyFrom_34 : decode cX2_copyFrom 34 = .ok (.getfield 21, 3) := by decide +kernel
theorem dX2_copyFrom_37 : decode cX2_copyFrom 37 = .ok (.aload_n 0, 1) := by decide +kernel
theorem dX2_copyFrom_38 : decode cX2_copyFrom 38 = .ok (.getfield 21, 3) := by decide +kernel
theorem dX2_copyFrom_41 : decode cX2_copyFrom 41 = .ok (.invokestatic 34, 3) := by decide +kernel
theorem dX2_copyFrom_44 : decode cX2_copyFrom 44 = .ok (.aload_n 1, 1) := by decide +kernel
theorem dX2_copyFrom_45 : decode cX2_copyFrom 45 = .ok (.getfield 24, 3) := by decide +kernel
theorem dX2_copyFrom_48 : decode cX2_copyFrom 48 = .ok (.aload_n 0, 1) := by decide +kernel
theorem dX2_copyFrom_49 : decode cX2_copyFrom 49 = .ok (.getfield 24, 3) := by decide +kernel
theorem dX2_copyFrom_52 : decode cX2_copyFrom 52 = .ok (.invokestatic 34, 3) := by decide +kernel
theorem dX2_copyFrom_55 : decode cX2_copyFrom 55 = .ok (.aload_n 1, 1) := by decide +kernel
theorem dX2_copyFrom_56 : decode cX2_copyFrom 56 = .ok (.getfield 27, 3) := by decide +kernel
theorem dX2_copyFrom_59 : decode cX2_copyFrom 59 = .ok (.aload_n 0, 1) := by decide +kernel
theorem dX2_copyFrom_60 : decode cX2_copyFrom 60 = .ok (.getfield 27, 3) := by decide +kernel
theorem dX2_copyFrom_63 : decode cX2_copyFrom 63 = .ok (.invokestatic 34, 3) := by decide +kernel
theorem dX2_copyFrom_66 : decode cX2_copyFrom 66 = .ok (.aload_n 0, 1) := by decide +kernel
theorem dX2_copyFrom_67 : decode cX2_copyFrom 67 = .ok (.aload_n 1, 1) := by decide +kernel
theorem dX2_copyFrom_68 : decode cX2_copyFrom 68 = .ok (.getfield 38, 3) := by decide +kernel
theorem dX2_copyFrom_71 : decode cX2_copyFrom 71 = .ok (.putfield 38, 3) := by decide +kernel
theorem dX2_copyFrom_74 : decode cX2_copyFrom 74 = .ok (.aload_n 0, 1) := by decide +kernel
theorem dX2_copyFrom_75 : decode cX2_copyFrom 75 = .ok (.aload_n 1, 1) := by decide +kernel
theorem dX2_copyFrom_76 : decode cX2_copyFrom 76 = .ok (.getfield 30, 3) := by decide +kernel
theorem dX2_copyFrom_79 : decode cX2_copyFrom 79 = .ok (.putfield 30, 3) := by decide +kernel
theorem dX2_copyFrom_82 : decode cX2_copyFrom 82 = .ok (.return_, 1) := by decide +kernel
theorem dX2_slot_0 : decode cX2_slot 0 = .ok (.iload_n 0, 1) := by decide +kernel
theorem dX2_slot_1 : decode cX2_slot 1 = .ok (.iconst 1, 1) := by decide +kernel
theorem dX2_slot_2 : decode cX2_slot 2 = .ok (.isub, 1) := by decide +kernel
theorem dX2_slot_3 : decode cX2_slot 3 = .ok (.bipush 20, 2) := by decide +kernel
theorem dX2_slot_5 : decode cX2_slot 5 = .ok (.imul, 1) := by decide +kernel
theorem dX2_slot_6 : decode cX2_slot 6 = .ok (.iload_n 1, 1) := by decide +kernel
theorem dX2_slot_7 : decode cX2_slot 7 = .ok (.iadd, 1) := by decide +kernel
theorem dX2_slot_8 : decode cX2_slot 8 = .ok (.ireturn, 1) := by decide +kernel
theorem dX2_hasEdition_0 : decode cX2_hasEdition 0 = .ok (.iload_n 1, 1) := by decide +kernel
theorem dX2_hasEdition_1 : decode cX2_hasEdition 1 = .ok (.iconst 1, 1) := by decide +kernel
theorem dX2_hasEdition_2 : decode cX2_hasEdition 2 = .ok (.if_icmp .lt 15, 3) := by decide +kernel
theorem dX2_hasEdition_5 : decode cX2_hasEdition 5 = .ok (.iload_n 1, 1) := by decide +kernel
theorem dX2_hasEdition_6 : decode cX2_hasEdition 6 = .ok (.aload_n 0, 1) := by decide +kernel
theorem dX2_hasEdition_7 : decode cX2_hasEdition 7 = .ok (.getfield 30, 3) := by decide +kernel
theorem dX2_hasEdition_10 : decode cX2_hasEdition 10 = .ok (.if_icmp .gt 7, 3) := by decide +kernel
theorem dX2_hasEdition_13 : decode cX2_hasEdition 13 = .ok (.iconst 1, 1) := by decide +kernel
theorem dX2_hasEdition_14 : decode cX2_hasEdition 14 = .ok (.goto 4, 3) := by decide +kernel
theorem dX2_hasEdition_17 : decode cX2_hasEdition 17 = .ok (.iconst 0, 1) := by decide +kernel
theorem dX2_hasEdition_18 : decode cX2_hasEdition 18 = .ok (.ireturn, 1) := by decide +kernel
theorem dX2_find_0 : decode cX2_find 0 = .ok (.iconst 0, 1) := by decide +kernel
theorem dX2_find_1 : decode cX2_find 1 = .ok (.istore_n 2, 1) := by decide +kernel
theorem dX2_find_2 : decode cX2_find 2 = .ok (.iload_n 2, 1) := by decide +kernel
theorem dX2_find_3 : decode cX2_find 3 = .ok (.aload_n 0, 1) := by decide +kernel
theorem dX2_find_4 : decode cX2_find 4 = .ok (.getfield 38, 3) := by decide +kernel
theorem dX2_find_7 : decode cX2_find 7 = .ok (.if_icmp .ge 21, 3) := by decide +kernel
theorem dX2_find_10 : decode cX2_find 10 = .ok (.aload_n 0, 1) := by decide +kernel
theorem dX2_find_11 : decode cX2_find 11 = .ok (.getfield 9, 3) := by decide +kernel
theorem dX2_find_14 : decode cX2_find 14 = .ok (.iload_n 2, 1) := by decide +kernel
theorem dX2_find_15 : decode cX2_find 15 = .ok (.iaload, 1) := by decide +kernel
theorem dX2_find_16 : decode cX2_find 16 = .ok (.iload_n 1, 1) := by decide +kernel
theorem dX2_find_17 : decode cX2_find 17 = .ok (.if_icmp .ne 5, 3) := by decide +kernel
theorem dX2_find_20 : decode cX2_find 20 = .ok (.iload_n 2, 1) := by decide +kernel
theorem dX2_find_21 : decode cX2_find 21 = .ok (.ireturn, 1) := by decide +kernel
theorem dX2_find_22 : decode cX2_find 22 = .ok (.iinc 2 1, 3) := by decide +kernel
theorem dX2_find_25 : decode cX2_find 25 = .ok (.goto (-23), 3) := by decide +kernel
theorem dX2_find_28 : decode cX2_find 28 = .ok (.iconst (-1), 1) := by decide +kernel
theorem dX2_find_29 : decode cX2_find 29 = .ok (.ireturn, 1) := by decide +kernel
theorem dX2_insert_0 : decode cX2_insert 0 = .ok (.aload_n 0, 1) := by decide +kernel
theorem dX2_insert_1 : decode cX2_insert 1 = .ok (.getfield 38, 3) := by decide +kernel
theorem dX2_insert_4 : decode cX2_insert 4 = .ok (.bipush 20, 2) := by decide +kernel
theorem dX2_insert_6 : decode cX2_insert 6 = .ok (.if_icmp .lt 4, 3) := by decide +kernel
theorem dX2_insert_9 : decode cX2_insert 9 = .ok (.return_, 1) := by decide +kernel
theorem dX2_insert_10 : decode cX2_insert 10 = .ok (.aload_n 0, 1) := by decide +kernel
theorem dX2_insert_11 : decode cX2_insert 11 = .ok (.getfield 38, 3) := by decide +kernel
theorem dX2_insert_14 : decode cX2_insert 14 = .ok (.istore_n 3, 1) := by decide +kernel
theorem dX2_insert_15 : decode cX2_insert 15 = .ok (.iload_n 3, 1) := by decide +kernel
theorem dX2_insert_16 : decode cX2_insert 16 = .ok (.ifCond .le 71, 3) := by decide +kernel
theorem dX2_insert_19 : decode cX2_insert 19 = .ok (.aload_n 0, 1) := by decide +kernel
theorem dX2_insert_20 : decode cX2_insert 20 = .ok (.getfield 9, 3) := by decide +kernel
theorem dX2_insert_23 : decode cX2_insert 23 = .ok (.iload_n 3, 1) := by decide +kernel
theorem dX2_insert_24 : decode cX2_insert 24 = .ok (.iconst 1, 1) := by decide +kernel
theorem dX2_insert_25 : decode cX2_insert 25 = .ok (.isub, 1) := by decide +kernel
theorem dX2_insert_26 : decode cX2_insert 26 = .ok (.iaload, 1) := by decide +kernel
theorem dX2_insert_27 : decode cX2_insert 27 = .ok (.iload_n 1, 1) := by decide +kernel
theorem dX2_insert_28 : decode cX2_insert 28 = .ok (.if_icmp .le 59, 3) := by decide +kernel
theorem dX2_insert_31 : decode cX2_insert 31 = .ok (.aload_n 0, 1) := by decide +kernel
theorem dX2_insert_32 : decode cX2_insert 32 = .ok (.getfield 9, 3) := by decide +kernel
theorem dX2_insert_35 : decode cX2_insert 35 = .ok (.iload_n 3, 1) := by decide +kernel
theorem dX2_insert_36 : decode cX2_insert 36 = .ok (.aload_n 0, 1) := by decide +kernel
theorem dX2_insert_37 : decode cX2_insert 37 = .ok (.getfield 9, 3) := by decide +kernel
theorem dX2_insert_40 : decode cX2_insert 40 = .ok (.iload_n 3, 1) := by decide +kernel
theorem dX2_insert_41 : decode cX2_insert 41 = .ok (.iconst 1, 1) := by decide +kernel
theorem dX2_insert_42 : decode cX2_insert 42 = .ok (.isub, 1) := by decide +kernel
theorem dX2_insert_43 : decode cX2_insert 43 = .ok (.iaload, 1) := by decide +kernel
theorem dX2_insert_44 : decode cX2_insert 44 = .ok (.iastore, 1) := by decide +kernel
theorem dX2_insert_45 : decode cX2_insert 45 = .ok (.aload_n 0, 1) := by decide +kernel
theorem dX2_insert_46 : decode cX2_insert 46 = .ok (.getfield 15, 3) := by decide +kernel
theorem dX2_insert_49 : decode cX2_insert 49 = .ok (.iload_n 3, 1) := by decide +kernel
theorem dX2_insert_50 : decode cX2_insert 50 = .ok (.aload_n 0, 1) := by decide +kernel
theorem dX2_insert_51 : decode cX2_insert 51 = .ok (.getfield 15, 3) := by decide +kernel
theorem dX2_insert_54 : decode cX2_insert 54 = .ok (.iload_n 3, 1) := by decide +kernel
theorem dX2_insert_55 : decode cX2_insert 55 = .ok (.iconst 1, 1) := by decide +kernel
theorem dX2_insert_56 : decode cX2_insert 56 = .ok (.isub, 1) := by decide +kernel
theorem dX2_insert_57 : decode cX2_insert 57 = .ok (.iaload, 1) := by decide +kernel
theorem dX2_insert_58 : decode cX2_insert 58 = .ok (.iastore, 1) := by decide +kernel
theorem dX2_insert_59 : decode cX2_insert 59 = .ok (.aload_n 0, 1) := by decide +kernel
theorem dX2_insert_60 : decode cX2_insert 60 = .ok (.getfield 24, 3) := by decide +kernel
theorem dX2_insert_63 : decode cX2_insert 63 = .ok (.iconst 1, 1) := by decide +kernel
theorem dX2_insert_64 : decode cX2_insert 64 = .ok (.iload_n 3, 1) := by decide +kernel
theorem dX2_insert_65 : decode cX2_insert 65 = .ok (.invokestatic 41, 3) := by decide +kernel
theorem dX2_insert_68 : decode cX2_insert 68 = .ok (.aload_n 0, 1) := by decide +kernel
theorem dX2_insert_69 : decode cX2_insert 69 = .ok (.getfield 24, 3) := by decide +kernel
theorem dX2_insert_72 : decode cX2_insert 72 = .ok (.iconst 1, 1) := by decide +kernel
theorem dX2_insert_73 : decode cX2_insert 73 = .ok (.iload_n 3, 1) := by decide +kernel
theorem dX2_insert_74 : decode cX2_insert 74 = .ok (.iconst 1, 1) := by decide +kernel
theorem dX2_insert_75 : decode cX2_insert 75 = .ok (.isub, 1) := by decide +kernel
theorem dX2_insert_76 : decode cX2_insert 76 = .ok (.invokestatic 41, 3) := by decide +kernel
theorem dX2_insert_79 : decode cX2_insert 79 = .ok (.iaload, 1) := by decide +kernel
theorem dX2_insert_80 : decode cX2_insert 80 = .ok (.iastore, 1) := by decide +kernel
theorem dX2_insert_81 : decode cX2_insert 81 = .ok (.iinc 3 (-1), 3) := by decide +kernel
theorem dX2_insert_84 : decode cX2_insert 84 = .ok (.goto (-69), 3) := by decide +kernel
theorem dX2_insert_87 : decode cX2_insert 87 = .ok (.aload_n 0, 1) := by decide +kernel
theorem dX2_insert_88 : decode cX2_insert 88 = .ok (.getfield 9, 3) := by decide +kernel
theorem dX2_insert_91 : decode cX2_insert 91 = .ok (.iload_n 3, 1) := by decide +kernel
theorem dX2_insert_92 : decode cX2_insert 92 = .ok (.iload_n 1, 1) := by decide +kernel
theorem dX2_insert_93 : decode cX2_insert 93 = .ok (.iastore, 1) := by decide +kernel
theorem dX2_insert_94 : decode cX2_insert 94 = .ok (.aload_n 0, 1) := by decide +kernel
theorem dX2_insert_95 : decode cX2_insert 95 = .ok (.getfield 15, 3) := by decide +kernel
theorem dX2_insert_98 : decode cX2_insert 98 = .ok (.iload_n 3, 1) := by decide +kernel
theorem dX2_insert_99 : decode cX2_insert 99 = .ok (.iload_n 2, 1) := by decide +kernel
theorem dX2_insert_100 : decode cX2_insert 100 = .ok (.iastore, 1) := by decide +kernel
theorem dX2_insert_101 : decode cX2_insert 101 = .ok (.aload_n 0, 1) := by decide +kernel
theorem dX2_insert_102 : decode cX2_insert 102 = .ok (.getfield 24, 3) := by decide +kernel
theorem dX2_insert_105 : decode cX2_insert 105 = .ok (.iconst 1, 1) := by decide +kernel
theorem dX2_insert_106 : decode cX2_insert 106 = .ok (.iload_n 3, 1) := by decide +kernel
theorem dX2_insert_107 : decode cX2_insert 107 = .ok (.invokestatic 41, 3) := by decide +kernel
theorem dX2_insert_110 : decode cX2_insert 110 = .ok (.iload_n 2, 1) := by decide +kernel
theorem dX2_insert_111 : decode cX2_insert 111 = .ok (.iastore, 1) := by decide +kernel
theorem dX2_insert_112 : decode cX2_insert 112 = .ok (.aload_n 0, 1) := by decide +kernel
theorem dX2_insert_113 : decode cX2_insert 113 = .ok (.dup, 1) := by decide +kernel
theorem dX2_insert_114 : decode cX2_insert 114 = .ok (.getfield 38, 3) := by decide +kernel
theorem dX2_insert_117 : decode cX2_insert 117 = .ok (.iconst 1, 1) := by decide +kernel
theorem dX2_insert_118 : decode cX2_insert 118 = .ok (.iadd, 1) := by decide +kernel
theorem dX2_insert_119 : decode cX2_insert 119 = .ok (.putfield 38, 3) := by decide +kernel
theorem dX2_insert_122 : decode cX2_insert 122 = .ok (.return_, 1) := by decide +kernel
theorem dX2_canGet_0 : decode cX2_canGet 0 = .ok (.aload_n 0, 1) := by decide +kernel
theorem dX2_canGet_1 : decode cX2_canGet 1 = .ok (.getfield 15, 3) := by decide +kernel
theorem dX2_canGet_4 : decode cX2_canGet 4 = .ok (.iload_n 1, 1) := by decide +kernel
theorem dX2_canGet_5 : decode cX2_canGet 5 = .ok (.iaload, 1) := by decide +kernel
theorem dX2_canGet_6 : decode cX2_canGet 6 = .ok (.aload_n 0, 1) := by decide +kernel
theorem dX2_canGet_7 : decode cX2_canGet 7 = .ok (.getfield 18, 3) := by decide +kernel
theorem dX2_canGet_10 : decode cX2_canGet 10 = .ok (.iload_n 1, 1) := by decide +kernel
theorem dX2_canGet_11 : decode cX2_canGet 11 = .ok (.iaload, 1) := by decide +kernel
theorem dX2_canGet_12 : decode cX2_canGet 12 = .ok (.if_icmp .eq 13, 3) := by decide +kernel
theorem dX2_canGet_15 : decode cX2_canGet 15 = .ok (.aload_n 0, 1) := by decide +kernel
theorem dX2_canGet_16 : decode cX2_canGet 16 = .ok (.getfield 15, 3) := by decide +kernel
theorem dX2_canGet_19 : decode cX2_canGet 19 = .ok (.iload_n 1, 1) := by decide +kernel
theorem dX2_canGet_20 : decode cX2_canGet 20 = .ok (.iaload, 1) := by decide +kernel
theorem dX2_canGet_21 : decode cX2_canGet 21 = .ok (.iload_n 2, 1) := by decide +kernel
theorem dX2_canGet_22 : decode cX2_canGet 22 = .ok (.if_icmp .ne 7, 3) := by decide +kernel
theorem dX2_canGet_25 : decode cX2_canGet 25 = .ok (.iconst 1, 1) := by decide +kernel
theorem dX2_canGet_26 : decode cX2_canGet 26 = .ok (.goto 4, 3) := by decide +kernel
theorem dX2_canGet_29 : decode cX2_canGet 29 = .ok (.iconst 0, 1) := by decide +kernel
theorem dX2_canGet_30 : decode cX2_canGet 30 = .ok (.ireturn, 1) := by decide +kernel
theorem dX2_isChanged_0 : decode cX2_isChanged 0 = .ok (.iconst 0, 1) := by decide +kernel
theorem dX2_isChanged_1 : decode cX2_isChanged 1 = .ok (.istore_n 1, 1) := by decide +kernel
theorem dX2_isChanged_2 : decode cX2_isChanged 2 = .ok (.iload_n 1, 1) := by decide +kernel
theorem dX2_isChanged_3 : decode cX2_isChanged 3 = .ok (.aload_n 0, 1) := by decide +kernel
theorem dX2_isChanged_4 : decode cX2_isChanged 4 = .ok (.getfield 38, 3) := by decide +kernel
theorem dX2_isChanged_7 : decode cX2_isChanged 7 = .ok (.if_icmp .ge 33, 3) := by decide +kernel
theorem dX2_isChanged_10 : decode cX2_isChanged 10 = .ok (.aload_n 0, 1) := by decide +kernel
theorem dX2_isChanged_11 : decode cX2_isChanged 11 = .ok (.getfield 15, 3) := by decide +kernel
theorem dX2_isChanged_14 : decode cX2_isChanged 14 = .ok (.iload_n 1, 1) := by decide +kernel
theorem dX2_isChanged_15 : decode cX2_isChanged 15 = .ok (.iaload, 1) := by decide +kernel
theorem dX2_isChanged_16 : decode cX2_isChanged 16 = .ok (.aload_n 0, 1) := by decide +kernel
theorem dX2_isChanged_17 : decode cX2_isChanged 17 = .ok (.getfield 24, 3) := by decide +kernel
theorem dX2_isChanged_20 : decode cX2_isChanged 20 = .ok (.aload_n 0, 1) := by decide +kernel
theorem dX2_isChanged_21 : decode cX2_isChanged 21 = .ok (.getfield 30, 3) := by decide +kernel
theorem dX2_isChanged_24 : decode cX2_isChanged 24 = .ok (.iload_n 1, 1) := by decide +kernel
theorem dX2_isChanged_25 : decode cX2_isChanged 25 = .ok (.invokestatic 41, 3) := by decide +kernel
theorem dX2_isChanged_28 : decode cX2_isChanged 28 = .ok (.iaload, 1) := by decide +kernel
theorem dX2_isChanged_29 : decode cX2_isChanged 29 = .ok (.if_icmp .eq 5, 3) := by decide +kernel
theorem dX2_isChanged_32 : decode cX2_isChanged 32 = .ok (.iconst 1, 1) := by decide +kernel
theorem dX2_isChanged_33 : decode cX2_isChanged 33 = .ok (.ireturn, 1) := by decide +kernel
theorem dX2_isChanged_34 : decode cX2_isChanged 34 = .ok (.iinc 1 1, 3) := by decide +kernel
theorem dX2_isChanged_37 : decode cX2_isChanged 37 = .ok (.goto (-35), 3) := by decide +kernel
theorem dX2_isChanged_40 : decode cX2_isChanged 40 = .ok (.iconst 0, 1) := by decide +kernel
theorem dX2_isChanged_41 : decode cX2_isChanged 41 = .ok (.ireturn, 1) := by decide +kernel
theorem dX2_differs_0 : decode cX2_differs 0 = .ok (.iload_n 1, 1) := by decide +kernel
theorem dX2_differs_1 : decode cX2_differs 1 = .ok (.iconst 1, 1) := by decide +kernel
theorem dX2_differs_2 : decode cX2_differs 2 = .ok (.if_icmp .le 32, 3) := by decide +kernel
theorem dX2_differs_5 : decode cX2_differs 5 = .ok (.aload_n 0, 1) := by decide +kernel
theorem dX2_differs_6 : decode cX2_differs 6 = .ok (.getfield 24, 3) := by decide +kernel
theorem dX2_differs_9 : decode cX2_differs 9 = .ok (.iload_n 1, 1) := by decide +kernel
theorem dX2_differs_10 : decode cX2_differs 10 = .ok (.iload_n 2, 1) := by decide +kernel
theorem dX2_differs_11 : decode cX2_differs 11 = .ok (.invokestatic 41, 3) := by decide +kernel
theorem dX2_differs_14 : decode cX2_differs 14 = .ok (.iaload, 1) := by decide +kernel
theorem dX2_differs_15 : decode cX2_differs 15 = .ok (.aload_n 0, 1) := by decide +kernel
theorem dX2_differs_16 : decode cX2_differs 16 = .ok (.getfield 24, 3) := by decide +kernel
theorem dX2_differs_19 : decode cX2_differs 19 = .ok (.iload_n 1, 1) := by decide +kernel
theorem dX2_differs_20 : decode cX2_differs 20 = .ok (.iconst 1, 1) := by decide +kernel
theorem dX2_differs_21 : decode cX2_differs 21 = .ok (.isub, 1) := by decide +kernel
theorem dX2_differs_22 : decode cX2_differs 22 = .ok (.iload_n 2, 1) := by decide +kernel
theorem dX2_differs_23 : decode cX2_differs 23 = .ok (.invokestatic 41, 3) := by decide +kernel
theorem dX2_differs_26 : decode cX2_differs 26 = .ok (.iaload, 1) := by decide +kernel
theorem dX2_differs_27 : decode cX2_differs 27 = .ok (.if_icmp .eq 7, 3) := by decide +kernel
theorem dX2_differs_30 : decode cX2_differs 30 = .ok (.iconst 1, 1) := by decide +kernel
theorem dX2_differs_31 : decode cX2_differs 31 = .ok (.goto 4, 3) := by decide +kernel
theorem dX2_differs_34 : decode cX2_differs 34 = .ok (.iconst 0, 1) := by decide +kernel
theorem dX2_differs_35 : decode cX2_differs 35 = .ok (.ireturn, 1) := by decide +kernel
theorem dX2_changesOf_0 : decode cX2_changesOf 0 = .ok (.iconst 0, 1) := by decide +kernel
theorem dX2_changesOf_1 : decode cX2_changesOf 1 = .ok (.istore_n 2, 1) := by decide +kernel
theorem dX2_changesOf_2 : decode cX2_changesOf 2 = .ok (.iconst 0, 1) := by decide +kernel
theorem dX2_changesOf_3 : decode cX2_changesOf 3 = .ok (.istore_n 3, 1) := by decide +kernel
theorem dX2_changesOf_4 : decode cX2_changesOf 4 = .ok (.iload_n 3, 1) := by decide +kernel
theorem dX2_changesOf_5 : decode cX2_changesOf 5 = .ok (.aload_n 0, 1) := by decide +kernel
theorem dX2_changesOf_6 : decode cX2_changesOf 6 = .ok (.getfield 38, 3) := by decide +kernel
theorem dX2_changesOf_9 : decode cX2_changesOf 9 = .ok (.if_icmp .ge 21, 3) := by decide +kernel
theorem dX2_changesOf_12 : decode cX2_changesOf 12 = .ok (.aload_n 0, 1) := by decide +kernel
theorem dX2_changesOf_13 : decode cX2_changesOf 13 = .ok (.iload_n 1, 1) := by decide +kernel
theorem dX2_changesOf_14 : decode cX2_changesOf 14 = .ok (.iload_n 3, 1) := by decide +kernel
theorem dX2_changesOf_15 : decode cX2_changesOf 15 = .ok (.invokevirtual 45, 3) := by decide +kernel
theorem dX2_changesOf_18 : decode cX2_changesOf 18 = .ok (.ifCond .eq 6, 3) := by decide +kernel
theorem dX2_changesOf_21 : decode cX2_changesOf 21 = .ok (.iinc 2 1, 3) := by decide +kernel
theorem dX2_changesOf_24 : decode cX2_changesOf 24 = .ok (.iinc 3 1, 3) := by decide +kernel
theorem dX2_changesOf_27 : decode cX2_changesOf 27 = .ok (.goto (-23), 3) := by decide +kernel
theorem dX2_changesOf_30 : decode cX2_changesOf 30 = .ok (.iload_n 2, 1) := by decide +kernel
theorem dX2_changesOf_31 : decode cX2_changesOf 31 = .ok (.ireturn, 1) := by decide +kernel
theorem dX2_placeOfChange_0 : decode cX2_placeOfChange 0 = .ok (.iconst 0, 1) := by decide +kernel
theorem dX2_placeOfChange_1 : decode cX2_placeOfChange 1 = .ok (.istore_n 3, 1) := by decide +kernel
theorem dX2_placeOfChange_2 : decode cX2_placeOfChange 2 = .ok (.iconst 0, 1) := by decide +kernel
theorem dX2_placeOfChange_3 : decode cX2_placeOfChange 3 = .ok (.istore 4, 2) := by decide +kernel
theorem dX2_placeOfChange_5 : decode cX2_placeOfChange 5 = .ok (.iload 4, 2) := by decide +kernel
theorem dX2_placeOfChange_7 : decode cX2_placeOfChange 7 = .ok (.aload_n 0, 1) := by decide +kernel
theorem dX2_placeOfChange_8 : decode cX2_placeOfChange 8 = .ok (.getfield 38, 3) := by decide +kernel
theorem dX2_placeOfChange_11 : decode cX2_placeOfChange 11 = .ok (.if_icmp .ge 30, 3) := by decide +kernel
theorem dX2_placeOfChange_14 : decode cX2_placeOfChange 14 = .ok (.aload_n 0, 1) := by decide +kernel
theorem dX2_placeOfChange_15 : decode cX2_placeOfChange 15 = .ok (.iload_n 1, 1) := by decide +kernel
theorem dX2_placeOfChange_16 : decode cX2_placeOfChange 16 = .ok (.iload 4, 2) := by decide +kernel
theorem dX2_placeOfChange_18 : decode cX2_placeOfChange 18 = .ok (.invokevirtual 45, 3) := by decide +kernel
theorem dX2_placeOfChange_21 : decode cX2_placeOfChange 21 = .ok (.ifCond .eq 14, 3) := by decide +kernel
theorem dX2_placeOfChange_24 : decode cX2_placeOfChange 24 = .ok (.iload_n 3, 1) := by decide +kernel
theorem dX2_placeOfChange_25 : decode cX2_placeOfChange 25 = .ok (.iload_n 2, 1) := by decide +kernel
theorem dX2_placeOfChange_26 : decode cX2_placeOfChange 26 = .ok (.if_icmp .ne 6, 3) := by decide +kernel
theorem dX2_placeOfChange_29 : decode cX2_placeOfChange 29 = .ok (.iload 4, 2) := by decide +kernel
theorem dX2_placeOfChange_31 : decode cX2_placeOfChange 31 = .ok (.ireturn, 1) := by decide +kernel
theorem dX2_placeOfChange_32 : decode cX2_placeOfChange 32 = .ok (.iinc 3 1, 3) := by decide +kernel
theorem dX2_placeOfChange_35 : decode cX2_placeOfChange 35 = .ok (.iinc 4 1, 3) := by decide +kernel
theorem dX2_placeOfChange_38 : decode cX2_placeOfChange 38 = .ok (.goto (-33), 3) := by decide +kernel
theorem dX2_placeOfChange_41 : decode cX2_placeOfChange 41 = .ok (.iconst (-1), 1) := by decide +kernel
theorem dX2_placeOfChange_42 : decode cX2_placeOfChange 42 = .ok (.ireturn, 1) := by decide +kernel
theorem dX3_init_0 : decode cX3_init 0 = .ok (.aload_n 0, 1) := by decide +kernel
theorem dX3_init_1 : decode cX3_init 1 = .ok (.invokespecial 3, 3) := by decide +kernel
theorem dX3_init_4 : decode cX3_init 4 = .ok (.aload_n 0, 1) := by decide +kernel
theorem dX3_init_5 : decode cX3_init 5 = .ok (.iconst 4, 1) := by decide +kernel
theorem dX3_init_6 : decode cX3_init 6 = .ok (.anewarray 9, 3) := by decide +kernel
theorem dX3_init_9 : decode cX3_init 9 = .ok (.putfield 11, 3) := by decide +kernel
theorem dX3_init_12 : decode cX3_init 12 = .ok (.iconst 0, 1) := by decide +kernel
theorem dX3_init_13 : decode cX3_init 13 = .ok (.istore_n 1, 1) := by decide +kernel
theorem dX3_init_14 : decode cX3_init 14 = .ok (.iload_n 1, 1) := by decide +kernel
theorem dX3_init_15 : decode cX3_init 15 = .ok (.iconst 4, 1) := by decide +kernel
theorem dX3_init_16 : decode cX3_init 16 = .ok (.if_icmp .ge 22, 3) := by decide +kernel
theorem dX3_init_19 : decode cX3_init 19 = .ok (.aload_n 0, 1) := by decide +kernel
theorem dX3_init_20 : decode cX3_init 20 = .ok (.getfield 11, 3) := by decide +kernel
theorem dX3_init_23 : decode cX3_init 23 = .ok (.iload_n 1, 1) := by decide +kernel
theorem dX3_init_24 : decode cX3_init 24 = .ok (.new 9, 3) := by decide +kernel
theorem dX3_init_27 : decode cX3_init 27 = .ok (.dup, 1) := by decide +kernel
theorem dX3_init_28 : decode cX3_init 28 = .ok (.invokespecial 17, 3) := by decide +kernel
theorem dX3_init_31 : decode cX3_init 31 = .ok (.aastore, 1) := by decide +kernel
theorem dX3_init_32 : decode cX3_init 32 = .ok (.iinc 1 1, 3) := by decide +kernel
theorem dX3_init_35 : decode cX3_init 35 = .ok (.goto (-21), 3) := by decide +kernel
theorem dX3_init_38 : decode cX3_init 38 = .ok (.return_, 1) := by decide +kernel
theorem dX3_keep_0 : decode cX3_keep 0 = .ok (.aload_n 0, 1) := by decide +kernel
theorem dX3_keep_1 : decode cX3_keep 1 = .ok (.getfield 11, 3) := by decide +kernel
theorem dX3_keep_4 : decode cX3_keep 4 = .ok (.aload_n 0, 1) := by decide +kernel
theorem dX3_keep_5 : decode cX3_keep 5 = .ok (.getfield 18, 3) := by decide +kernel
theorem dX3_keep_8 : decode cX3_keep 8 = .ok (.aload_n 0, 1) := by decide +kernel
theorem dX3_keep_9 : decode cX3_keep 9 = .ok (.getfield 22, 3) := by decide +kernel
theorem dX3_keep_12 : decode cX3_keep 12 = .ok (.iadd, 1) := by decide +kernel
theorem dX3_keep_13 : decode cX3_keep 13 = .ok (.iconst 4, 1) := by decide +kernel
theorem dX3_keep_14 : decode cX3_keep 14 = .ok (.irem, 1) := by decide +kernel
theorem dX3_keep_15 : decode cX3_keep 15 = .ok (.aaload, 1) := by decide +kernel
theorem dX3_keep_16 : decode cX3_keep 16 = .ok (.aload_n 1, 1) := by decide +kernel
theorem dX3_keep_17 : decode cX3_keep 17 = .ok (.invokevirtual 25, 3) := by decide +kernel
theorem dX3_keep_20 : decode cX3_keep 20 = .ok (.aload_n 0, 1) := by decide +kernel
theorem dX3_keep_21 : decode cX3_keep 21 = .ok (.getfield 22, 3) := by decide +kernel
theorem dX3_keep_24 : decode cX3_keep 24 = .ok (.iconst 4, 1) := by decide +kernel
theorem dX3_keep_25 : decode cX3_keep 25 = .ok (.if_icmp .ge 16, 3) := by decide +kernel
theorem dX3_keep_28 : decode cX3_keep 28 = .ok (.aload_n 0, 1) := by decide +kernel
theorem dX3_keep_29 : decode cX3_keep 29 = .ok (.dup, 1) := by decide +kernel
theorem dX3_keep_30 : decode cX3_keep 30 = .ok (.getfield 22, 3) := by decide +kernel
theorem dX3_keep_33 : decode cX3_keep 33 = .ok (.iconst 1, 1) := by decide +kernel
theorem dX3_keep_34 : decode cX3_keep 34 = .ok (.iadd, 1) := by decide +kernel
theorem dX3_keep_35 : decode cX3_keep 35 = .ok (.putfield 22, 3) := by decide +kernel
theorem dX3_keep_38 : decode cX3_keep 38 = .ok (.goto 15, 3) := by decide +kernel
theorem dX3_keep_41 : decode cX3_keep 41 = .ok (.aload_n 0, 1) := by decide +kernel
theorem dX3_keep_42 : decode cX3_keep 42 = .ok (.aload_n 0, 1) := by decide +kernel
theorem dX3_keep_43 : decode cX3_keep 43 = .ok (.getfield 18, 3) := by decide +kernel
theorem dX3_keep_46 : decode cX3_keep 46 = .ok (.iconst 1, 1) := by decide +kernel
theorem dX3_keep_47 : decode cX3_keep 47 = .ok (.iadd, 1) := by decide +kernel
theorem dX3_keep_48 : decode cX3_keep 48 = .ok (.iconst 4, 1) := by decide +kernel
theorem dX3_keep_49 : decode cX3_keep 49 = .ok (.irem, 1) := by decide +kernel
theorem dX3_keep_50 : decode cX3_keep 50 = .ok (.putfield 18, 3) := by decide +kernel
theorem dX3_keep_53 : decode cX3_keep 53 = .ok (.return_, 1) := by decide +kernel
theorem dX3_restore_0 : decode cX3_restore 0 = .ok (.aload_n 0, 1) := by decide +kernel
theorem dX3_restore_1 : decode cX3_restore 1 = .ok (.getfield 22, 3) := by decide +kernel
theorem dX3_restore_4 : decode cX3_restore 4 = .ok (.ifCond .le 33, 3) := by decide +kernel
theorem dX3_restore_7 : decode cX3_restore 7 = .ok (.aload_n 0, 1) := by decide +kernel
theorem dX3_restore_8 : decode cX3_restore 8 = .ok (.dup, 1) := by decide +kernel
theorem dX3_restore_9 : decode cX3_restore 9 = .ok (.getfield 22, 3) := by decide +kernel
theorem dX3_restore_12 : decode cX3_restore 12 = .ok (.iconst 1, 1) := by decide +kernel
theorem dX3_restore_13 : decode cX3_restore 13 = .ok (.isub, 1) := by decide +kernel
theorem dX3_restore_14 : decode cX3_restore 14 = .ok (.putfield 22, 3) := by decide +kernel
theorem dX3_restore_17 : decode cX3_restore 17 = .ok (.aload_n 1, 1) := by decide +kernel
theorem dX3_restore_18 : decode cX3_restore 18 = .ok (.aload_n 0, 1) := by decide +kernel
theorem dX3_restore_19 : decode cX3_restore 19 = .ok (.getfield 11, 3) := by decide +kernel
theorem dX3_restore_22 : decode cX3_restore 22 = .ok (.aload_n 0, 1) := by decide +kernel
theorem dX3_restore_23 : decode cX3_restore 23 = .ok (.getfield 18, 3) := by decide +kernel
theorem dX3_restore_26 : decode cX3_restore 26 = .ok (.aload_n 0, 1) := by decide +kernel
theorem dX3_restore_27 : decode cX3_restore 27 = .ok (.getfield 22, 3) := by decide +kernel
theorem dX3_restore_30 : decode cX3_restore 30 = .ok (.iadd, 1) := by decide +kernel
theorem dX3_restore_31 : decode cX3_restore 31 = .ok (.iconst 4, 1) := by decide +kernel
theorem dX3_restore_32 : decode cX3_restore 32 = .ok (.irem, 1) := by decide +kernel
theorem dX3_restore_33 : decode cX3_restore 33 = .ok (.aaload, 1) := by decide +kernel
theorem dX3_restore_34 : decode cX3_restore 34 = .ok (.invokevirtual 25, 3) := by decide +kernel
theorem dX3_restore_37 : decode cX3_restore 37 = .ok (.return_, 1) := by decide +kernel
theorem dX4_init_0 : decode cX4_init 0 = .ok (.aload_n 0, 1) := by decide +kernel
theorem dX4_init_1 : decode cX4_init 1 = .ok (.invokespecial 3, 3) := by decide +kernel
theorem dX4_init_4 : decode cX4_init 4 = .ok (.aload_n 0, 1) := by decide +kernel
theorem dX4_init_5 : decode cX4_init 5 = .ok (.bipush 10, 2) := by decide +kernel
theorem dX4_init_7 : decode cX4_init 7 = .ok (.newarray .int, 2) := by decide +kernel
theorem dX4_init_9 : decode cX4_init 9 = .ok (.putfield 9, 3) := by decide +kernel
theorem dX4_init_12 : decode cX4_init 12 = .ok (.aload_n 0, 1) := by decide +kernel
theorem dX4_init_13 : decode cX4_init 13 = .ok (.bipush 10, 2) := by decide +kernel
theorem dX4_init_15 : decode cX4_init 15 = .ok (.newarray .int, 2) := by decide +kernel
theorem dX4_init_17 : decode cX4_init 17 = .ok (.putfield 15, 3) := by decide +kernel
theorem dX4_init_20 : decode cX4_init 20 = .ok (.aload_n 0, 1) := by decide +kernel
theorem dX4_init_21 : decode cX4_init 21 = .ok (.bipush 10, 2) := by decide +kernel
theorem dX4_init_23 : decode cX4_init 23 = .ok (.newarray .int, 2) := by decide +kernel
theorem dX4_init_25 : decode cX4_init 25 = .ok (.putfield 18, 3) := by decide +kernel
theorem dX4_init_28 : decode cX4_init 28 = .ok (.aload_n 0, 1) := by decide +kernel
theorem dX4_init_29 : decode cX4_init 29 = .ok (.bipush 10, 2) := by decide +kernel
theorem dX4_init_31 : decode cX4_init 31 = .ok (.newarray .int, 2) := by decide +kernel
theorem dX4_init_33 : decode cX4_init 33 = .ok (.putfield 21, 3) := by decide +kernel
theorem dX4_init_36 : decode cX4_init 36 = .ok (.return_, 1) := by decide +kernel
theorem dX4_copyFrom_0 : decode cX4_copyFrom 0 = .ok (.aload_n 1, 1) := by decide +kernel
theorem dX4_copyFrom_1 : decode cX4_copyFrom 1 = .ok (.getfield 9, 3) := by decide +kernel
theorem dX4_copyFrom_4 : decode cX4_copyFrom 4 = .ok (.aload_n 0, 1) := by decide +kernel
theorem dX4_copyFrom_5 : decode cX4_copyFrom 5 = .ok (.getfield 9, 3) := by decide +kernel
theorem dX4_copyFrom_8 : decode cX4_copyFrom 8 = .ok (.invokestatic 24, 3) := by decide +kernel
theorem dX4_copyFrom_11 : decode cX4_copyFrom 11 = .ok (.aload_n 1, 1) := by decide +kernel
theorem dX4_copyFrom_12 : decode cX4_copyFrom 12 = .ok (.getfield 15, 3) := by decide +kernel
theorem dX4_copyFrom_15 : decode cX4_copyFrom 15 = .ok (.aload_n 0, 1) := by decide +kernel
theorem dX4_copyFrom_16 : decode cX4_copyFrom 16 = .ok (.getfield 15, 3) := by decide +kernel
theorem dX4_copyFrom_19 : decode cX4_copyFrom 19 = .ok (.invokestatic 24, 3) := by decide +kernel
theorem dX4_copyFrom_22 : decode cX4_copyFrom 22 = .ok (.aload_n 1, 1) := by decide +kernel
theorem dX4_copyFrom_23 : decode cX4_copyFrom 23 = .ok (.getfield 18, 3) := by decide +kernel
theorem dX4_copyFrom_26 : decode cX4_copyFrom 26 = .ok (.aload_n 0, 1) := by decide +kernel
theorem dX4_copyFrom_27 : decode cX4_copyFrom 27 = .ok (.getfield 18, 3) := by decide +kernel
theorem dX4_copyFrom_30 : decode cX4_copyFrom 30 = .ok (.invokestatic 24, 3) := by decide +kernel
theorem dX4_copyFrom_33 : decode cX4_copyFrom 33 = .ok (.aload_n 1, 1) := by decide +kernel
theorem dX4_copyFrom_34 : decode cX4_copyFrom 34 = .ok (.getfield 21, 3) := by decide +kernel
theorem dX4_copyFrom_37 : decode cX4_copyFrom 37 = .ok (.aload_n 0, 1) := by decide +kernel
theorem dX4_copyFrom_38 : decode cX4_copyFrom 38 = .ok (.getfield 21, 3) := by decide +kernel
theorem dX4_copyFrom_41 : decode cX4_copyFrom 41 = .ok (.invokestatic 24, 3) := by decide +kernel
theorem dX4_copyFrom_44 : decode cX4_copyFrom 44 = .ok (.aload_n 0, 1) := by decide +kernel
theorem dX4_copyFrom_45 : decode cX4_copyFrom 45 = .ok (.aload_n 1, 1) := by decide +kernel
theorem dX4_copyFrom_46 : decode cX4_copyFrom 46 = .ok (.getfield 28, 3) := by decide +kernel
theorem dX4_copyFrom_49 : decode cX4_copyFrom 49 = .ok (.putfield 28, 3) := by decide +kernel
theorem dX4_copyFrom_52 : decode cX4_copyFrom 52 = .ok (.return_, 1) := by decide +kernel
theorem dX4_has_0 : decode cX4_has 0 = .ok (.iload_n 1, 1) := by decide +kernel
theorem dX4_has_1 : decode cX4_has 1 = .ok (.ifCond .lt 15, 3) := by decide +kernel
theorem dX4_has_4 : decode cX4_has 4 = .ok (.iload_n 1, 1) := by decide +kernel
theorem dX4_has_5 : decode cX4_has 5 = .ok (.aload_n 0, 1) := by decide +kernel
theorem dX4_has_6 : decode cX4_has 6 = .ok (.getfield 28, 3) := by decide +kernel
theorem dX4_has_9 : decode cX4_has 9 = .ok (.if_icmp .ge 7, 3) := by decide +kernel
theorem dX4_has_12 : decode cX4_has 12 = .ok (.iconst 1, 1) := by decide +kernel
theorem dX4_has_13 : decode cX4_has 13 = .ok (.goto 4, 3) := by decide +kernel
theorem dX4_has_16 : decode cX4_has 16 = .ok (.iconst 0, 1) := by decide +kernel
theorem dX4_has_17 : decode cX4_has 17 = .ok (.ireturn, 1) := by decide +kernel
theorem dX4_hasVoted_0 : decode cX4_hasVoted 0 = .ok (.aload_n 0, 1) := by decide +kernel
theorem dX4_hasVoted_1 : decode cX4_hasVoted 1 = .ok (.getfield 18, 3) := by decide +kernel
theorem dX4_hasVoted_4 : decode cX4_hasVoted 4 = .ok (.iload_n 1, 1) := by decide +kernel
theorem dX4_hasVoted_5 : decode cX4_hasVoted 5 = .ok (.iaload, 1) := by decide +kernel
theorem dX4_hasVoted_6 : decode cX4_hasVoted 6 = .ok (.iconst (-1), 1) := by decide +kernel
theorem dX4_hasVoted_7 : decode cX4_hasVoted 7 = .ok (.if_icmp .eq 7, 3) := by decide +kernel
theorem dX4_hasVoted_10 : decode cX4_hasVoted 10 = .ok (.iconst 1, 1) := by decide +kernel
theorem dX4_hasVoted_11 : decode cX4_hasVoted 11 = .ok (.goto 4, 3) := by decide +kernel
theorem dX4_hasVoted_14 : decode cX4_hasVoted 14 = .ok (.iconst 0, 1) := by decide +kernel
theorem dX4_hasVoted_15 : decode cX4_hasVoted 15 = .ok (.ireturn, 1) := by decide +kernel
theorem dX4_isSet_0 : decode cX4_isSet 0 = .ok (.iload_n 1, 1) := by decide +kernel
theorem dX4_isSet_1 : decode cX4_isSet 1 = .ok (.ifCond .lt 17, 3) := by decide +kernel
theorem dX4_isSet_4 : decode cX4_isSet 4 = .ok (.iload_n 1, 1) := by decide +kernel
theorem dX4_isSet_5 : decode cX4_isSet 5 = .ok (.iconst 1, 1) := by decide +kernel
theorem dX4_isSet_6 : decode cX4_isSet 6 = .ok (.aload_n 0, 1) := by decide +kernel
theorem dX4_isSet_7 : decode cX4_isSet 7 = .ok (.getfield 28, 3) := by decide +kernel
theorem dX4_isSet_10 : decode cX4_isSet 10 = .ok (.ishl, 1) := by decide +kernel
theorem dX4_isSet_11 : decode cX4_isSet 11 = .ok (.if_icmp .ge 7, 3) := by decide +kernel
theorem dX4_isSet_14 : decode cX4_isSet 14 = .ok (.iconst 1, 1) := by decide +kernel
theorem dX4_isSet_15 : decode cX4_isSet 15 = .ok (.goto 4, 3) := by decide +kernel
theorem dX4_isSet_18 : decode cX4_isSet 18 = .ok (.iconst 0, 1) := by decide +kernel
theorem dX4_isSet_19 : decode cX4_isSet 19 = .ok (.ireturn, 1) := by decide +kernel
theorem dX4_append_0 : decode cX4_append 0 = .ok (.aload_n 0, 1) := by decide +kernel
theorem dX4_append_1 : decode cX4_append 1 = .ok (.getfield 28, 3) := by decide +kernel
theorem dX4_append_4 : decode cX4_append 4 = .ok (.bipush 10, 2) := by decide +kernel
theorem dX4_append_6 : decode cX4_append 6 = .ok (.if_icmp .lt 5, 3) := by decide +kernel
theorem dX4_append_9 : decode cX4_append 9 = .ok (.iconst (-1), 1) := by decide +kernel
theorem dX4_append_10 : decode cX4_append 10 = .ok (.ireturn, 1) := by decide +kernel
theorem dX4_append_11 : decode cX4_append 11 = .ok (.aload_n 0, 1) := by decide +kernel
theorem dX4_append_12 : decode cX4_append 12 = .ok (.getfield 9, 3) := by decide +kernel
theorem dX4_append_15 : decode cX4_append 15 = .ok (.aload_n 0, 1) := by decide +kernel
theorem dX4_append_16 : decode cX4_append 16 = .ok (.getfield 28, 3) := by decide +kernel
theorem dX4_append_19 : decode cX4_append 19 = .ok (.iload_n 1, 1) := by decide +kernel
theorem dX4_append_20 : decode cX4_append 20 = .ok (.iastore, 1) := by decide +kernel
theorem dX4_append_21 : decode cX4_append 21 = .ok (.aload_n 0, 1) := by decide +kernel
theorem dX4_append_22 : decode cX4_append 22 = .ok (.getfield 15, 3) := by decide +kernel
theorem dX4_append_25 : decode cX4_append 25 = .ok (.aload_n 0, 1) := by decide +kernel
theorem dX4_append_26 : decode cX4_append 26 = .ok (.getfield 28, 3) := by decide +kernel
theorem dX4_append_29 : decode cX4_append 29 = .ok (.iconst 0, 1) := by decide +kernel
theorem dX4_append_30 : decode cX4_append 30 = .ok (.iastore, 1) := by decide +kernel
theorem dX4_append_31 : decode cX4_append 31 = .ok (.aload_n 0, 1) := by decide +kernel
theorem dX4_append_32 : decode cX4_append 32 = .ok (.getfield 18, 3) := by decide +kernel
theorem dX4_append_35 : decode cX4_append 35 = .ok (.aload_n 0, 1) := by decide +kernel
theorem dX4_append_36 : decode cX4_append 36 = .ok (.getfield 28, 3) := by decide +kernel
theorem dX4_append_39 : decode cX4_append 39 = .ok (.iconst (-1), 1) := by decide +kernel
theorem dX4_append_40 : decode cX4_append 40 = .ok (.iastore, 1) := by decide +kernel
theorem dX4_append_41 : decode cX4_append 41 = .ok (.aload_n 0, 1) := by decide +kernel
theorem dX4_append_42 : decode cX4_append 42 = .ok (.getfield 21, 3) := by decide +kernel
theorem dX4_append_45 : decode cX4_append 45 = .ok (.aload_n 0, 1) := by decide +kernel
theorem dX4_append_46 : decode cX4_append 46 = .ok (.getfield 28, 3) := by decide +kernel
theorem dX4_append_49 : decode cX4_append 49 = .ok (.iconst 0, 1) := by decide +kernel
theorem dX4_append_50 : decode cX4_append 50 = .ok (.iastore, 1) := by decide +kernel
theorem dX4_append_51 : decode cX4_append 51 = .ok (.aload_n 0, 1) := by decide +kernel
theorem dX4_append_52 : decode cX4_append 52 = .ok (.dup, 1) := by decide +kernel
theorem dX4_append_53 : decode cX4_append 53 = .ok (.getfield 28, 3) := by decide +kernel
theorem dX4_append_56 : decode cX4_append 56 = .ok (.iconst 1, 1) := by decide +kernel
theorem dX4_append_57 : decode cX4_append 57 = .ok (.iadd, 1) := by decide +kernel
theorem dX4_append_58 : decode cX4_append 58 = .ok (.putfield 28, 3) := by decide +kernel
theorem dX4_append_61 : decode cX4_append 61 = .ok (.aload_n 0, 1) := by decide +kernel
theorem dX4_append_62 : decode cX4_append 62 = .ok (.getfield 28, 3) := by decide +kernel
theorem dX4_append_65 : decode cX4_append 65 = .ok (.iconst 1, 1) := by decide +kernel
theorem dX4_append_66 : decode cX4_append 66 = .ok (.isub, 1) := by decide +kernel
theorem dX4_append_67 : decode cX4_append 67 = .ok (.ireturn, 1) := by decide +kernel
theorem dX4_voters_0 : decode cX4_voters 0 = .ok (.iconst 0, 1) := by decide +kernel
theorem dX4_voters_1 : decode cX4_voters 1 = .ok (.istore_n 1, 1) := by decide +kernel
theorem dX4_voters_2 : decode cX4_voters 2 = .ok (.iconst 0, 1) := by decide +kernel
theorem dX4_voters_3 : decode cX4_voters 3 = .ok (.istore_n 2, 1) := by decide +kernel
theorem dX4_voters_4 : decode cX4_voters 4 = .ok (.iload_n 2, 1) := by decide +kernel
theorem dX4_voters_5 : decode cX4_voters 5 = .ok (.aload_n 0, 1) := by decide +kernel
theorem dX4_voters_6 : decode cX4_voters 6 = .ok (.getfield 28, 3) := by decide +kernel
theorem dX4_voters_9 : decode cX4_voters 9 = .ok (.if_icmp .ge 20, 3) := by decide +kernel
theorem dX4_voters_12 : decode cX4_voters 12 = .ok (.aload_n 0, 1) := by decide +kernel
theorem dX4_voters_13 : decode cX4_voters 13 = .ok (.iload_n 2, 1) := by decide +kernel
theorem dX4_voters_14 : decode cX4_voters 14 = .ok (.invokevirtual 32, 3) := by decide +kernel
theorem dX4_voters_17 : decode cX4_voters 17 = .ok (.ifCond .eq 6, 3) := by decide +kernel
theorem dX4_voters_20 : decode cX4_voters 20 = .ok (.iinc 1 1, 3) := by decide +kernel
theorem dX4_voters_23 : decode cX4_voters 23 = .ok (.iinc 2 1, 3) := by decide +kernel
theorem dX4_voters_26 : decode cX4_voters 26 = .ok (.goto (-22), 3) := by decide +kernel
theorem dX4_voters_29 : decode cX4_voters 29 = .ok (.iload_n 1, 1) := by decide +kernel
theorem dX4_voters_30 : decode cX4_voters 30 = .ok (.ireturn, 1) := by decide +kernel
theorem dX4_noteMisses_0 : decode cX4_noteMisses 0 = .ok (.iconst 0, 1) := by decide +kernel
theorem dX4_noteMisses_1 : decode cX4_noteMisses 1 = .ok (.istore_n 1, 1) := by decide +kernel
theorem dX4_noteMisses_2 : decode cX4_noteMisses 2 = .ok (.iload_n 1, 1) := by decide +kernel
theorem dX4_noteMisses_3 : decode cX4_noteMisses 3 = .ok (.aload_n 0, 1) := by decide +kernel
theorem dX4_noteMisses_4 : decode cX4_noteMisses 4 = .ok (.getfield 28, 3) := by decide +kernel
theorem dX4_noteMisses_7 : decode cX4_noteMisses 7 = .ok (.if_icmp .ge 47, 3) := by decide +kernel
theorem dX4_noteMisses_10 : decode cX4_noteMisses 10 = .ok (.aload_n 0, 1) := by decide +kernel
theorem dX4_noteMisses_11 : decode cX4_noteMisses 11 = .ok (.iload_n 1, 1) := by decide +kernel
theorem dX4_noteMisses_12 : decode cX4_noteMisses 12 = .ok (.invokevirtual 32, 3) := by decide +kernel
theorem dX4_noteMisses_15 : decode cX4_noteMisses 15 = .ok (.ifCond .eq 23, 3) := by decide +kernel
theorem dX4_noteMisses_18 : decode cX4_noteMisses 18 = .ok (.aload_n 0, 1) := by decide +kernel
theorem dX4_noteMisses_19 : decode cX4_noteMisses 19 = .ok (.getfield 15, 3) := by decide +kernel
theorem dX4_noteMisses_22 : decode cX4_noteMisses 22 = .ok (.iload_n 1, 1) := by decide +kernel
theorem dX4_noteMisses_23 : decode cX4_noteMisses 23 = .ok (.iconst 0, 1) := by decide +kernel
theorem dX4_noteMisses_24 : decode cX4_noteMisses 24 = .ok (.iastore, 1) := by decide +kernel
theorem dX4_noteMisses_25 : decode cX4_noteMisses 25 = .ok (.aload_n 0, 1) := by decide +kernel
theorem dX4_noteMisses_26 : decode cX4_noteMisses 26 = .ok (.getfield 21, 3) := by decide +kernel
theorem dX4_noteMisses_29 : decode cX4_noteMisses 29 = .ok (.iload_n 1, 1) := by decide +kernel
theorem dX4_noteMisses_30 : decode cX4_noteMisses 30 = .ok (.dup2, 1) := by decide +kernel
theorem dX4_noteMisses_31 : decode cX4_noteMisses 31 = .ok (.iaload, 1) := by decide +kernel
theorem dX4_noteMisses_32 : decode cX4_noteMisses 32 = .ok (.iconst 1, 1) := by decide +kernel
theorem dX4_noteMisses_33 : decode cX4_noteMisses 33 = .ok (.iadd, 1) := by decide +kernel
theorem dX4_noteMisses_34 : decode cX4_noteMisses 34 = .ok (.iastore, 1) := by decide +kernel
theorem dX4_noteMisses_35 : decode cX4_noteMisses 35 = .ok (.goto 13, 3) := by decide +kernel
theorem dX4_noteMisses_38 : decode cX4_noteMisses 38 = .ok (.aload_n 0, 1) := by decide +kernel
theorem dX4_noteMisses_39 : decode cX4_noteMisses 39 = .ok (.getfield 15, 3) := by decide +kernel
theorem dX4_noteMisses_42 : decode cX4_noteMisses 42 = .ok (.iload_n 1, 1) := by decide +kernel
theorem dX4_noteMisses_43 : decode cX4_noteMisses 43 = .ok (.dup2, 1) := by decide +kernel
theorem dX4_noteMisses_44 : decode cX4_noteMisses 44 = .ok (.iaload, 1) := by decide +kernel
theorem dX4_noteMisses_45 : decode cX4_noteMisses 45 = .ok (.iconst 1, 1) := by decide +kernel
theorem dX4_noteMisses_46 : decode cX4_noteMisses 46 = .ok (.iadd, 1) := by decide +kernel
theorem dX4_noteMisses_47 : decode cX4_noteMisses 47 = .ok (.iastore, 1) := by decide +kernel
theorem dX4_noteMisses_48 : decode cX4_noteMisses 48 = .ok (.iinc 1 1, 3) := by decide +kernel
theorem dX4_noteMisses_51 : decode cX4_noteMisses 51 = .ok (.goto (-49), 3) := by decide +kernel
theorem dX4_noteMisses_54 : decode cX4_noteMisses 54 = .ok (.return_, 1) := by decide +kernel
theorem dX5_init_0 : decode cX5_init 0 = .ok (.aload_n 0, 1) := by decide +kernel
theorem dX5_init_1 : decode cX5_init 1 = .ok (.invokespecial 3, 3) := by decide +kernel
theorem dX5_init_4 : decode cX5_init 4 = .ok (.aload_n 0, 1) := by decide +kernel
theorem dX5_init_5 : decode cX5_init 5 = .ok (.new 9, 3) := by decide +kernel
theorem dX5_init_8 : decode cX5_init 8 = .ok (.dup, 1) := by decide +kernel
theorem dX5_init_9 : decode cX5_init 9 = .ok (.invokespecial 11, 3) := by decide +kernel
theorem dX5_init_12 : decode cX5_init 12 = .ok (.putfield 12, 3) := by decide +kernel
theorem dX5_init_15 : decode cX5_init 15 = .ok (.aload_n 0, 1) := by decide +kernel
theorem dX5_init_16 : decode cX5_init 16 = .ok (.new 18, 3) := by decide +kernel
theorem dX5_init_19 : decode cX5_init 19 = .ok (.dup, 1) := by decide +kernel
theorem dX5_init_20 : decode cX5_init 20 = .ok (.invokespecial 20, 3) := by decide +kernel
theorem dX5_init_23 : decode cX5_init 23 = .ok (.putfield 21, 3) := by decide +kernel
theorem dX5_init_26 : decode cX5_init 26 = .ok (.aload_n 0, 1) := by decide +kernel
theorem dX5_init_27 : decode cX5_init 27 = .ok (.new 25, 3) := by decide +kernel
theorem dX5_init_30 : decode cX5_init 30 = .ok (.dup, 1) := by decide +kernel
theorem dX5_init_31 : decode cX5_init 31 = .ok (.invokespecial 27, 3) := by decide +kernel
theorem dX5_init_34 : decode cX5_init 34 = .ok (.putfield 28, 3) := by decide +kernel
theorem dX5_init_37 : decode cX5_init 37 = .ok (.aload_n 0, 1) := by decide +kernel
theorem dX5_init_38 : decode cX5_init 38 = .ok (.new 32, 3) := by decide +kernel
theorem dX5_init_41 : decode cX5_init 41 = .ok (.dup, 1) := by decide +kernel
theorem dX5_init_42 : decode cX5_init 42 = .ok (.invokespecial 34, 3) := by decide +kernel
theorem dX5_init_45 : decode cX5_init 45 = .ok (.putfield 35, 3) := by decide +kernel
theorem dX5_init_48 : decode cX5_init 48 = .ok (.aload_n 0, 1) := by decide +kernel
theorem dX5_init_49 : decode cX5_init 49 = .ok (.getstatic 39, 3) := by decide +kernel
theorem dX5_init_52 : decode cX5_init 52 = .ok (.invokevirtual 43, 3) := by decide +kernel
theorem dX5_init_55 : decode cX5_init 55 = .ok (.checkcast 44, 3) := by decide +kernel
theorem dX5_init_58 : decode cX5_init 58 = .ok (.putfield 48, 3) := by decide +kernel
theorem dX5_init_61 : decode cX5_init 61 = .ok (.return_, 1) := by decide +kernel
theorem dX5_copyFrom_0 : decode cX5_copyFrom 0 = .ok (.aload_n 0, 1) := by decide +kernel
theorem dX5_copyFrom_1 : decode cX5_copyFrom 1 = .ok (.getfield 12, 3) := by decide +kernel
theorem dX5_copyFrom_4 : decode cX5_copyFrom 4 = .ok (.aload_n 1, 1) := by decide +kernel
theorem dX5_copyFrom_5 : decode cX5_copyFrom 5 = .ok (.getfield 12, 3) := by decide +kernel
theorem dX5_copyFrom_8 : decode cX5_copyFrom 8 = .ok (.invokevirtual 51, 3) := by decide +kernel
theorem dX5_copyFrom_11 : decode cX5_copyFrom 11 = .ok (.aload_n 0, 1) := by decide +kernel
theorem dX5_copyFrom_12 : decode cX5_copyFrom 12 = .ok (.getfield 21, 3) := by decide +kernel
theorem dX5_copyFrom_15 : decode cX5_copyFrom 15 = .ok (.aload_n 1, 1) := by decide +kernel
theorem dX5_copyFrom_16 : decode cX5_copyFrom 16 = .ok (.getfield 21, 3) := by decide +kernel
theorem dX5_copyFrom_19 : decode cX5_copyFrom 19 = .ok (.invokevirtual 55, 3) := by decide +kernel
theorem dX5_copyFrom_22 : decode cX5_copyFrom 22 = .ok (.aload_n 0, 1) := by decide +kernel
theorem dX5_copyFrom_23 : decode cX5_copyFrom 23 = .ok (.getfield 28, 3) := by decide +kernel
theorem dX5_copyFrom_26 : decode cX5_copyFrom 26 = .ok (.aload_n 1, 1) := by decide +kernel
theorem dX5_copyFrom_27 : decode cX5_copyFrom 27 = .ok (.getfield 28, 3) := by decide +kernel
theorem dX5_copyFrom_30 : decode cX5_copyFrom 30 = .ok (.invokevirtual 58, 3) := by decide +kernel
theorem dX5_copyFrom_33 : decode cX5_copyFrom 33 = .ok (.aload_n 0, 1) := by decide +kernel
theorem dX5_copyFrom_34 : decode cX5_copyFrom 34 = .ok (.getfield 35, 3) := by decide +kernel
theorem dX5_copyFrom_37 : decode cX5_copyFrom 37 = .ok (.aload_n 1, 1) := by decide +kernel
theorem dX5_copyFrom_38 : decode cX5_copyFrom 38 = .ok (.getfield 35, 3) := by decide +kernel
theorem dX5_copyFrom_41 : decode cX5_copyFrom 41 = .ok (.invokevirtual 61, 3) := by decide +kernel
theorem dX5_copyFrom_44 : decode cX5_copyFrom 44 = .ok (.aload_n 1, 1) := by decide +kernel
theorem dX5_copyFrom_45 : decode cX5_copyFrom 45 = .ok (.getfield 48, 3) := by decide +kernel
theorem dX5_copyFrom_48 : decode cX5_copyFrom 48 = .ok (.aload_n 0, 1) := by decide +kernel
theorem dX5_copyFrom_49 : decode cX5_copyFrom 49 = .ok (.getfield 48, 3) := by decide +kernel
theorem dX5_copyFrom_52 : decode cX5_copyFrom 52 = .ok (.invokestatic 64, 3) := by decide +kernel
theorem dX5_copyFrom_55 : decode cX5_copyFrom 55 = .ok (.aload_n 0, 1) := by decide +kernel
theorem dX5_copyFrom_56 : decode cX5_copyFrom 56 = .ok (.aload_n 1, 1) := by decide +kernel
theorem dX5_copyFrom_57 : decode cX5_copyFrom 57 = .ok (.getfield 68, 3) := by decide +kernel
theorem dX5_copyFrom_60 : decode cX5_copyFrom 60 = .ok (.putfield 68, 3) := by decide +kernel
theorem dX5_copyFrom_63 : decode cX5_copyFrom 63 = .ok (.return_, 1) := by decide +kernel
theorem dX5_isLapsed_0 : decode cX5_isLapsed 0 = .ok (.aload_n 0, 1) := by decide +kernel
theorem dX5_isLapsed_1 : decode cX5_isLapsed 1 = .ok (.getfield 12, 3) := by decide +kernel
theorem dX5_isLapsed_4 : decode cX5_isLapsed 4 = .ok (.getfield 72, 3) := by decide +kernel
theorem dX5_isLapsed_7 : decode cX5_isLapsed 7 = .ok (.iload_n 1, 1) := by decide +kernel
theorem dX5_isLapsed_8 : decode cX5_isLapsed 8 = .ok (.iaload, 1) := by decide +kernel
theorem dX5_isLapsed_9 : decode cX5_isLapsed 9 = .ok (.aload_n 0, 1) := by decide +kernel
theorem dX5_isLapsed_10 : decode cX5_isLapsed 10 = .ok (.getfield 48, 3) := by decide +kernel
theorem dX5_isLapsed_13 : decode cX5_isLapsed 13 = .ok (.iconst 4, 1) := by decide +kernel
theorem dX5_isLapsed_14 : decode cX5_isLapsed 14 = .ok (.iaload, 1) := by decide +kernel
theorem dX5_isLapsed_15 : decode cX5_isLapsed 15 = .ok (.if_icmp .lt 7, 3) := by decide +kernel
theorem dX5_isLapsed_18 : decode cX5_isLapsed 18 = .ok (.iconst 1, 1) := by decide +kernel
theorem dX5_isLapsed_19 : decode cX5_isLapsed 19 = .ok (.goto 4, 3) := by decide +kernel
theorem dX5_isLapsed_22 : decode cX5_isLapsed 22 = .ok (.iconst 0, 1) := by decide +kernel
theorem dX5_isLapsed_23 : decode cX5_isLapsed 23 = .ok (.ireturn, 1) := by decide +kernel
theorem dX5_activeWeight_0 : decode cX5_activeWeight 0 = .ok (.aload_n 0, 1) := by decide +kernel
theorem dX5_activeWeight_1 : decode cX5_activeWeight 1 = .ok (.iconst 1, 1) := by decide +kernel
theorem dX5_activeWeight_2 : decode cX5_activeWeight 2 = .ok (.aload_n 0, 1) := by decide +kernel
theorem dX5_activeWeight_3 : decode cX5_activeWeight 3 = .ok (.getfield 12, 3) := by decide +kernel
theorem dX5_activeWeight_6 : decode cX5_activeWeight 6 = .ok (.getfield 75, 3) := by decide +kernel
theorem dX5_activeWeight_9 : decode cX5_activeWeight 9 = .ok (.ishl, 1) := by decide +kernel
theorem dX5_activeWeight_10 : decode cX5_activeWeight 10 = .ok (.iconst 1, 1) := by decide +kernel
theorem dX5_activeWeight_11 : decode cX5_activeWeight 11 = .ok (.isub, 1) := by decide +kernel
theorem dX5_activeWeight_12 : decode cX5_activeWeight 12 = .ok (.invokevirtual 78, 3) := by decide +kernel
theorem dX5_activeWeight_15 : decode cX5_activeWeight 15 = .ok (.ireturn, 1) := by decide +kernel
theorem dX5_activeWeightIn_0 : decode cX5_activeWeightIn 0 = .ok (.iconst 0, 1) := by decide +kernel
theorem dX5_activeWeightIn_1 : decode cX5_activeWeightIn 1 = .ok (.istore_n 2, 1) := by decide +kernel
theorem dX5_activeWeightIn_2 : decode cX5_activeWeightIn 2 = .ok (.iconst 0, 1) := by decide +kernel
theorem dX5_activeWeightIn_3 : decode cX5_activeWeightIn 3 = .ok (.istore_n 3, 1) := by decide +kernel
theorem dX5_activeWeightIn_4 : decode cX5_activeWeightIn 4 = .ok (.iload_n 3, 1) := by decide +kernel
theorem dX5_activeWeightIn_5 : decode cX5_activeWeightIn 5 = .ok (.aload_n 0, 1) := by decide +kernel
theorem dX5_activeWeightIn_6 : decode cX5_activeWeightIn 6 = .ok (.getfield 12, 3) := by decide +kernel
theorem dX5_activeWeightIn_9 : decode cX5_activeWeightIn 9 = .ok (.getfield 75, 3) := by decide +kernel
theorem dX5_activeWeightIn_12 : decode cX5_activeWeightIn 12 = .ok (.if_icmp .ge 38, 3) := by decide +kernel
theorem dX5_activeWeightIn_15 : decode cX5_activeWeightIn 15 = .ok (.iload_n 1, 1) := by decide +kernel
theorem dX5_activeWeightIn_16 : decode cX5_activeWeightIn 16 = .ok (.iload_n 3, 1) := by decide +kernel
theorem dX5_activeWeightIn_17 : decode cX5_activeWeightIn 17 = .ok (.ishr, 1) := by decide +kernel
theorem dX5_activeWeightIn_18 : decode cX5_activeWeightIn 18 = .ok (.iconst 1, 1) := by decide +kernel
theorem dX5_activeWeightIn_19 : decode cX5_activeWeightIn 19 = .ok (.iand, 1) := by decide +kernel
theorem dX5_activeWeightIn_20 : decode cX5_activeWeightIn 20 = .ok (.iconst 1, 1) := by decide +kernel
theorem dX5_activeWeightIn_21 : decode cX5_activeWeightIn 21 = .ok (.if_icmp .ne 23, 3) := by decide +kernel
theorem dX5_activeWeightIn_24 : decode cX5_activeWeightIn 24 = .ok (.aload_n 0, 1) := by decide +kernel
theorem dX5_activeWeightIn_25 : decode cX5_activeWeightIn 25 = .ok (.iload_n 3, 1) := by decide +kernel
theorem dX5_activeWeightIn_26 : decode cX5_activeWeightIn 26 = .ok (.invokevirtual 82, 3) := by decide +kernel
theorem dX5_activeWeightIn_29 : decode cX5_activeWeightIn 29 = .ok (.ifCond .ne 15, 3) := by decide +kernel
theorem dX5_activeWeightIn_32 : decode cX5_activeWeightIn 32 = .ok (.iload_n 2, 1) := by decide +kernel
theorem dX5_activeWeightIn_33 : decode cX5_activeWeightIn 33 = .ok (.aload_n 0, 1) := by decide +kernel
theorem dX5_activeWeightIn_34 : decode cX5_activeWeightIn 34 = .ok (.getfield 12, 3) := by decide +kernel
theorem dX5_activeWeightIn_37 : decode cX5_activeWeightIn 37 = .ok (.getfield 86, 3) := by decide +kernel
theorem dX5_activeWeightIn_40 : decode cX5_activeWeightIn 40 = .ok (.iload_n 3, 1) := by decide +kernel
theorem dX5_activeWeightIn_41 : decode cX5_activeWeightIn 41 = .ok (.iaload, 1) := by decide +kernel
theorem dX5_activeWeightIn_42 : decode cX5_activeWeightIn 42 = .ok (.iadd, 1) := by decide +kernel
theorem dX5_activeWeightIn_43 : decode cX5_activeWeightIn 43 = .ok (.istore_n 2, 1) := by decide +kernel
theorem dX5_activeWeightIn_44 : decode cX5_activeWeightIn 44 = .ok (.iinc 3 1, 3) := by decide +kernel
theorem dX5_activeWeightIn_47 : decode cX5_activeWeightIn 47 = .ok (.goto (-43), 3) := by decide +kernel
theorem dX5_activeWeightIn_50 : decode cX5_activeWeightIn 50 = .ok (.iload_n 2, 1) := by decide +kernel
theorem dX5_activeWeightIn_51 : decode cX5_activeWeightIn 51 = .ok (.ireturn, 1) := by decide +kernel
theorem dX5_openBallot_0 : decode cX5_openBallot 0 = .ok (.aload_n 0, 1) := by decide +kernel
theorem dX5_openBallot_1 : decode cX5_openBallot 1 = .ok (.getfield 28, 3) := by decide +kernel
theorem dX5_openBallot_4 : decode cX5_openBallot 4 = .ok (.iconst 1, 1) := by decide +kernel
theorem dX5_openBallot_5 : decode cX5_openBallot 5 = .ok (.putfield 89, 3) := by decide +kernel
theorem dX5_openBallot_8 : decode cX5_openBallot 8 = .ok (.aload_n 0, 1) := by decide +kernel
theorem dX5_openBallot_9 : decode cX5_openBallot 9 = .ok (.getfield 28, 3) := by decide +kernel
theorem dX5_openBallot_12 : decode cX5_openBallot 12 = .ok (.iconst 0, 1) := by decide +kernel
theorem dX5_openBallot_13 : decode cX5_openBallot 13 = .ok (.putfield 93, 3) := by decide +kernel
theorem dX5_openBallot_16 : decode cX5_openBallot 16 = .ok (.aload_n 0, 1) := by decide +kernel
theorem dX5_openBallot_17 : decode cX5_openBallot 17 = .ok (.getfield 28, 3) := by decide +kernel
theorem dX5_openBallot_20 : decode cX5_openBallot 20 = .ok (.dup, 1) := by decide +kernel
theorem dX5_openBallot_21 : decode cX5_openBallot 21 = .ok (.getfield 96, 3) := by decide +kernel
theorem dX5_openBallot_24 : decode cX5_openBallot 24 = .ok (.iconst 1, 1) := by decide +kernel
theorem dX5_openBallot_25 : decode cX5_openBallot 25 = .ok (.iadd, 1) := by decide +kernel
theorem dX5_openBallot_26 : decode cX5_openBallot 26 = .ok (.putfield 96, 3) := by decide +kernel
theorem dX5_openBallot_29 : decode cX5_openBallot 29 = .ok (.aload_n 0, 1) := by decide +kernel
theorem dX5_openBallot_30 : decode cX5_openBallot 30 = .ok (.getfield 28, 3) := by decide +kernel
theorem dX5_openBallot_33 : decode cX5_openBallot 33 = .ok (.aload_n 0, 1) := by decide +kernel
theorem dX5_openBallot_34 : decode cX5_openBallot 34 = .ok (.getfield 68, 3) := by decide +kernel
theorem dX5_openBallot_37 : decode cX5_openBallot 37 = .ok (.aload_n 0, 1) := by decide +kernel
theorem dX5_openBallot_38 : decode cX5_openBallot 38 = .ok (.getfield 48, 3) := by decide +kernel
theorem dX5_openBallot_41 : decode cX5_openBallot 41 = .ok (.iconst 2, 1) := by decide +kernel
theorem dX5_openBallot_42 : decode cX5_openBallot 42 = .ok (.iaload, 1) := by decide +kernel
theorem dX5_openBallot_43 : decode cX5_openBallot 43 = .ok (.iadd, 1) := by decide +kernel
theorem dX5_openBallot_44 : decode cX5_openBallot 44 = .ok (.putfield 99, 3) := by decide +kernel
theorem dX5_openBallot_47 : decode cX5_openBallot 47 = .ok (.aload_n 0, 1) := by decide +kernel
theorem dX5_openBallot_48 : decode cX5_openBallot 48 = .ok (.getfield 35, 3) := by decide +kernel
theorem dX5_openBallot_51 : decode cX5_openBallot 51 = .ok (.iconst 0, 1) := by decide +kernel
theorem dX5_openBallot_52 : decode cX5_openBallot 52 = .ok (.putfield 102, 3) := by decide +kernel
theorem dX5_openBallot_55 : decode cX5_openBallot 55 = .ok (.aload_n 0, 1) := by decide +kernel
theorem dX5_openBallot_56 : decode cX5_openBallot 56 = .ok (.getfield 35, 3) := by decide +kernel
theorem dX5_openBallot_59 : decode cX5_openBallot 59 = .ok (.iconst 0, 1) := by decide +kernel
theorem dX5_openBallot_60 : decode cX5_openBallot 60 = .ok (.putfield 103, 3) := by decide +kernel
theorem dX5_openBallot_63 : decode cX5_openBallot 63 = .ok (.aload_n 0, 1) := by decide +kernel
theorem dX5_openBallot_64 : decode cX5_openBallot 64 = .ok (.getfield 12, 3) := by decide +kernel
theorem dX5_openBallot_67 : decode cX5_openBallot 67 = .ok (.getfield 106, 3) := by decide +kernel
theorem dX5_openBallot_70 : decode cX5_openBallot 70 = .ok (.iconst (-1), 1) := by decide +kernel
theorem dX5_openBallot_71 : decode cX5_openBallot 71 = .ok (.invokestatic 109, 3) := by decide +kernel
theorem dX5_openBallot_74 : decode cX5_openBallot 74 = .ok (.aload_n 0, 1) := by decide +kernel
theorem dX5_openBallot_75 : decode cX5_openBallot 75 = .ok (.getfield 21, 3) := by decide +kernel
theorem dX5_openBallot_78 : decode cX5_openBallot 78 = .ok (.getfield 115, 3) := by decide +kernel
theorem dX5_openBallot_81 : decode cX5_openBallot 81 = .ok (.aload_n 0, 1) := by decide +kernel
theorem dX5_openBallot_82 : decode cX5_openBallot 82 = .ok (.getfield 21, 3) := by decide +kernel
theorem dX5_openBallot_85 : decode cX5_openBallot 85 = .ok (.getfield 118, 3) := by decide +kernel
theorem dX5_openBallot_88 : decode cX5_openBallot 88 = .ok (.invokestatic 64, 3) := by decide +kernel
theorem dX5_openBallot_91 : decode cX5_openBallot 91 = .ok (.return_, 1) := by decide +kernel
theorem dX5_countVotes_0 : decode cX5_countVotes 0 = .ok (.aload_n 0, 1) := by decide +kernel
theorem dX5_countVotes_1 : decode cX5_countVotes 1 = .ok (.getfield 28, 3) := by decide +kernel
theorem dX5_countVotes_4 : decode cX5_countVotes 4 = .ok (.getfield 121, 3) := by decide +kernel
theorem dX5_countVotes_7 : decode cX5_countVotes 7 = .ok (.astore_n 1, 1) := by decide +kernel
theorem dX5_countVotes_8 : decode cX5_countVotes 8 = .ok (.aload_n 1, 1) := by decide +kernel
theorem dX5_countVotes_9 : decode cX5_countVotes 9 = .ok (.iconst 0, 1) := by decide +kernel
theorem dX5_countVotes_10 : decode cX5_countVotes 10 = .ok (.invokestatic 109, 3) := by decide +kernel
theorem dX5_countVotes_13 : decode cX5_countVotes 13 = .ok (.iconst 0, 1) := by decide +kernel
theorem dX5_countVotes_14 : decode cX5_countVotes 14 = .ok (.istore_n 2, 1) := by decide +kernel
theorem dX5_countVotes_15 : decode cX5_countVotes 15 = .ok (.iload_n 2, 1) := by decide +kernel
theorem dX5_countVotes_16 : decode cX5_countVotes 16 = .ok (.aload_n 0, 1) := by decide +kernel
theorem dX5_countVotes_17 : decode cX5_countVotes 17 = .ok (.getfield 12, 3) := by decide +kernel
theorem dX5_countVotes_20 : decode cX5_countVotes 20 = .ok (.getfield 75, 3) := by decide +kernel
theorem dX5_countVotes_23 : decode cX5_countVotes 23 = .ok (.if_icmp .ge 77, 3) := by decide +kernel
theorem dX5_countVotes_26 : decode cX5_countVotes 26 = .ok (.aload_n 0, 1) := by decide +kernel
theorem dX5_countVotes_27 : decode cX5_countVotes 27 = .ok (.iload_n 2, 1) := by decide +kernel
theorem dX5_countVotes_28 : decode cX5_countVotes 28 = .ok (.invokevirtual 82, 3) := by decide +kernel
theorem dX5_countVotes_31 : decode cX5_countVotes 31 = .ok (.ifCond .ne 63, 3) := by decide +kernel
theorem dX5_countVotes_34 : decode cX5_countVotes 34 = .ok (.aload_n 1, 1) := by decide +kernel
theorem dX5_countVotes_35 : decode cX5_countVotes 35 = .ok (.iconst 0, 1) := by decide +kernel
theorem dX5_countVotes_36 : decode cX5_countVotes 36 = .ok (.dup2, 1) := by decide +kernel
theorem dX5_countVotes_37 : decode cX5_countVotes 37 = .ok (.iaload, 1) := by decide +kernel
theorem dX5_countVotes_38 : decode cX5_countVotes 38 = .ok (.aload_n 0, 1) := by decide +kernel
theorem dX5_countVotes_39 : decode cX5_countVotes 39 = .ok (.getfield 12, 3) := by decide +kernel
theorem dX5_countVotes_42 : decode cX5_countVotes 42 = .ok (.getfield 86, 3) := by decide +kernel
theorem dX5_countVotes_45 : decode cX5_countVotes 45 = .ok (.iload_n 2, 1) := by decide +kernel
theorem dX5_countVotes_46 : decode cX5_countVotes 46 = .ok (.iaload, 1) := by decide +kernel
theorem dX5_countVotes_47 : decode cX5_countVotes 47 = .ok (.iadd, 1) := by decide +kernel
theorem dX5_countVotes_48 : decode cX5_countVotes 48 = .ok (.iastore, 1) := by decide +kernel
theorem dX5_countVotes_49 : decode cX5_countVotes 49 = .ok (.aload_n 0, 1) := by decide +kernel
theorem dX5_countVotes_50 : decode cX5_countVotes 50 = .ok (.getfield 12, 3) := by decide +kernel
theorem dX5_countVotes_53 : decode cX5_countVotes 53 = .ok (.iload_n 2, 1) := by decide +kernel
theorem dX5_countVotes_54 : decode cX5_countVotes 54 = .ok (.invokevirtual 124, 3) := by decide +kernel
theorem dX5_countVotes_57 : decode cX5_countVotes 57 = .ok (.ifCond .eq 37, 3) := by decide +kernel
theorem dX5_countVotes_60 : decode cX5_countVotes 60 = .ok (.aload_n 1, 1) := by decide +kernel
theorem dX5_countVotes_61 : decode cX5_countVotes 61 = .ok (.iconst 1, 1) := by decide +kernel
theorem dX5_countVotes_62 : decode cX5_countVotes 62 = .ok (.dup2, 1) := by decide +kernel
theorem dX5_countVotes_63 : decode cX5_countVotes 63 = .ok (.iaload, 1) := by decide +kernel
theorem dX5_countVotes_64 : decode cX5_countVotes 64 = .ok (.aload_n 0, 1) := by decide +kernel
theorem dX5_countVotes_65 : decode cX5_countVotes 65 = .ok (.getfield 12, 3) := by decide +kernel
theorem dX5_countVotes_68 : decode cX5_countVotes 68 = .ok (.getfield 86, 3) := by decide +kernel
theorem dX5_countVotes_71 : decode cX5_countVotes 71 = .ok (.iload_n 2, 1) := by decide +kernel
theorem dX5_countVotes_72 : decode cX5_countVotes 72 = .ok (.iaload, 1) := by decide +kernel
theorem dX5_countVotes_73 : decode cX5_countVotes 73 = .ok (.iadd, 1) := by decide +kernel
theorem dX5_countVotes_74 : decode cX5_countVotes 74 = .ok (.iastore, 1) := by decide +kernel
theorem dX5_countVotes_75 : decode cX5_countVotes 75 = .ok (.aload_n 1, 1) := by decide +kernel
theorem dX5_countVotes_76 : decode cX5_countVotes 76 = .ok (.aload_n 0, 1) := by decide +kernel
theorem dX5_countVotes_77 : decode cX5_countVotes 77 = .ok (.iload_n 2, 1) := by decide +kernel
theorem dX5_countVotes_78 : decode cX5_countVotes 78 = .ok (.invokevirtual 127, 3) := by decide +kernel
theorem dX5_countVotes_81 : decode cX5_countVotes 81 = .ok (.dup2, 1) := by decide +kernel
theorem dX5_countVotes_82 : decode cX5_countVotes 82 = .ok (.iaload, 1) := by decide +kernel
theorem dX5_countVotes_83 : decode cX5_countVotes 83 = .ok (.aload_n 0, 1) := by decide +kernel
theorem dX5_countVotes_84 : decode cX5_countVotes 84 = .ok (.getfield 12, 3) := by decide +kernel
theorem dX5_countVotes_87 : decode cX5_countVotes 87 = .ok (.getfield 86, 3) := by decide +kernel
theorem dX5_countVotes_90 : decode cX5_countVotes 90 = .ok (.iload_n 2, 1) := by decide +kernel
theorem dX5_countVotes_91 : decode cX5_countVotes 91 = .ok (.iaload, 1) := by decide +kernel
theorem dX5_countVotes_92 : decode cX5_countVotes 92 = .ok (.iadd, 1) := by decide +kernel
theorem dX5_countVotes_93 : decode cX5_countVotes 93 = .ok (.iastore, 1) := by decide +kernel
theorem dX5_countVotes_94 : decode cX5_countVotes 94 = .ok (.iinc 2 1, 3) := by decide +kernel
theorem dX5_countVotes_97 : decode cX5_countVotes 97 = .ok (.goto (-82), 3) := by decide +kernel
theorem dX5_countVotes_100 : decode cX5_countVotes 100 = .ok (.aload_n 1, 1) := by decide +kernel
theorem dX5_countVotes_101 : decode cX5_countVotes 101 = .ok (.iconst 5, 1) := by decide +kernel
theorem dX5_countVotes_102 : decode cX5_countVotes 102 = .ok (.aload_n 0, 1) := by decide +kernel
theorem dX5_countVotes_103 : decode cX5_countVotes 103 = .ok (.aload_n 1, 1) := by decide +kernel
theorem dX5_countVotes_104 : decode cX5_countVotes 104 = .ok (.invokevirtual 130, 3) := by decide +kernel
theorem dX5_countVotes_107 : decode cX5_countVotes 107 = .ok (.ifCond .eq 7, 3) := by decide +kernel
theorem dX5_countVotes_110 : decode cX5_countVotes 110 = .ok (.iconst 1, 1) := by decide +kernel
theorem dX5_countVotes_111 : decode cX5_countVotes 111 = .ok (.goto 4, 3) := by decide +kernel
theorem dX5_countVotes_114 : decode cX5_countVotes 114 = .ok (.iconst 0, 1) := by decide +kernel
theorem dX5_countVotes_115 : decode cX5_countVotes 115 = .ok (.iastore, 1) := by decide +kernel
theorem dX5_countVotes_116 : decode cX5_countVotes 116 = .ok (.return_, 1) := by decide +kernel
theorem dX5_sumFor_0 : decode cX5_sumFor 0 = .ok (.aload_n 0, 1) := by decide +kernel
theorem dX5_sumFor_1 : decode cX5_sumFor 1 = .ok (.getfield 12, 3) := by decide +kernel
theorem dX5_sumFor_4 : decode cX5_sumFor 4 = .ok (.getfield 106, 3) := by decide +kernel
theorem dX5_sumFor_7 : decode cX5_sumFor 7 = .ok (.iload_n 1, 1) := by decide +kernel
theorem dX5_sumFor_8 : decode cX5_sumFor 8 = .ok (.iaload, 1) := by decide +kernel
theorem dX5_sumFor_9 : decode cX5_sumFor 9 = .ok (.istore_n 2, 1) := by decide +kernel
theorem dX5_sumFor_10 : decode cX5_sumFor 10 = .ok (.iload_n 2, 1) := by decide +kernel
theorem dX5_sumFor_11 : decode cX5_sumFor 11 = .ok (.ifCond .ne 5, 3) := by decide +kernel
theorem dX5_sumFor_14 : decode cX5_sumFor 14 = .ok (.iconst 2, 1) := by decide +kernel
theorem dX5_sumFor_15 : decode cX5_sumFor 15 = .ok (.ireturn, 1) := by decide +kernel
theorem dX5_sumFor_16 : decode cX5_sumFor 16 = .ok (.iload_n 2, 1) := by decide +kernel
theorem dX5_sumFor_17 : decode cX5_sumFor 17 = .ok (.iconst 1, 1) := by decide +kernel
theorem dX5_sumFor_18 : decode cX5_sumFor 18 = .ok (.if_icmp .ne 18, 3) := by decide +kernel
theorem dX5_sumFor_21 : decode cX5_sumFor 21 = .ok (.aload_n 0, 1) := by decide +kernel
theorem dX5_sumFor_22 : decode cX5_sumFor 22 = .ok (.getfield 35, 3) := by decide +kernel
theorem dX5_sumFor_25 : decode cX5_sumFor 25 = .ok (.iload_n 1, 1) := by decide +kernel
theorem dX5_sumFor_26 : decode cX5_sumFor 26 = .ok (.invokevirtual 134, 3) := by decide +kernel
theorem dX5_sumFor_29 : decode cX5_sumFor 29 = .ok (.ifCond .eq 7, 3) := by decide +kernel
theorem dX5_sumFor_32 : decode cX5_sumFor 32 = .ok (.iconst 3, 1) := by decide +kernel
theorem dX5_sumFor_33 : decode cX5_sumFor 33 = .ok (.goto 4, 3) := by decide +kernel
theorem dX5_sumFor_36 : decode cX5_sumFor 36 = .ok (.iconst 4, 1) := by decide +kernel
theorem dX5_sumFor_37 : decode cX5_sumFor 37 = .ok (.ireturn, 1) := by decide +kernel
theorem dX5_isCarriedBy_0 : decode cX5_isCarriedBy 0 = .ok (.aload_n 1, 1) := by decide +kernel
theorem dX5_isCarriedBy_1 : decode cX5_isCarriedBy 1 = .ok (.iconst 2, 1) := by decide +kernel
theorem dX5_isCarriedBy_2 : decode cX5_isCarriedBy 2 = .ok (.iaload, 1) := by decide +kernel
theorem dX5_isCarriedBy_3 : decode cX5_isCarriedBy 3 = .ok (.aload_n 1, 1) := by decide +kernel
theorem dX5_isCarriedBy_4 : decode cX5_isCarriedBy 4 = .ok (.iconst 3, 1) := by decide +kernel
theorem dX5_isCarriedBy_5 : decode cX5_isCarriedBy 5 = .ok (.iaload, 1) := by decide +kernel
theorem dX5_isCarriedBy_6 : decode cX5_isCarriedBy 6 = .ok (.iadd, 1) := by decide +kernel
theorem dX5_isCarriedBy_7 : decode cX5_isCarriedBy 7 = .ok (.istore_n 2, 1) := by decide +kernel
theorem dX5_isCarriedBy_8 : decode cX5_isCarriedBy 8 = .ok (.aload_n 1, 1) := by decide +kernel
theorem dX5_isCarriedBy_9 : decode cX5_isCarriedBy 9 = .ok (.iconst 0, 1) := by decide +kernel
theorem dX5_isCarriedBy_10 : decode cX5_isCarriedBy 10 = .ok (.iaload, 1) := by decide +kernel
theorem dX5_isCarriedBy_11 : decode cX5_isCarriedBy 11 = .ok (.ifCond .le 47, 3) := by decide +kernel
theorem dX5_isCarriedBy_14 : decode cX5_isCarriedBy 14 = .ok (.iload_n 2, 1) := by decide +kernel
theorem dX5_isCarriedBy_15 : decode cX5_isCarriedBy 15 = .ok (.ifCond .le 43, 3) := by decide +kernel
theorem dX5_isCarriedBy_18 : decode cX5_isCarriedBy 18 = .ok (.aload_n 1, 1) := by decide +kernel
theorem dX5_isCarriedBy_19 : decode cX5_isCarriedBy 19 = .ok (.iconst 1, 1) := by decide +kernel
theorem dX5_isCarriedBy_20 : decode cX5_isCarriedBy 20 = .ok (.iaload, 1) := by decide +kernel
theorem dX5_isCarriedBy_21 : decode cX5_isCarriedBy 21 = .ok (.bipush 100, 2) := by decide +kernel
theorem dX5_isCarriedBy_23 : decode cX5_isCarriedBy 23 = .ok (.imul, 1) := by decide +kernel
theorem dX5_isCarriedBy_24 : decode cX5_isCarriedBy 24 = .ok (.aload_n 0, 1) := by decide +kernel
theorem dX5_isCarriedBy_25 : decode cX5_isCarriedBy 25 = .ok (.getfield 48, 3) := by decide +kernel
theorem dX5_isCarriedBy_28 : decode cX5_isCarriedBy 28 = .ok (.iconst 0, 1) := by decide +kernel
theorem dX5_isCarriedBy_29 : decode cX5_isCarriedBy 29 = .ok (.iaload, 1) := by decide +kernel
theorem dX5_isCarriedBy_30 : decode cX5_isCarriedBy 30 = .ok (.aload_n 1, 1) := by decide +kernel
theorem dX5_isCarriedBy_31 : decode cX5_isCarriedBy 31 = .ok (.iconst 0, 1) := by decide +kernel
theorem dX5_isCarriedBy_32 : decode cX5_isCarriedBy 32 = .ok (.iaload, 1) := by decide +kernel
theorem dX5_isCarriedBy_33 : decode cX5_isCarriedBy 33 = .ok (.imul, 1) := by decide +kernel
theorem dX5_isCarriedBy_34 : decode cX5_isCarriedBy 34 = .ok (.if_icmp .lt 24, 3) := by decide +kernel
theorem dX5_isCarriedBy_37 : decode cX5_isCarriedBy 37 = .ok (.aload_n 1, 1) := by decide +kernel
theorem dX5_isCarriedBy_38 : decode cX5_isCarriedBy 38 = .ok (.iconst 2, 1) := by decide +kernel
theorem dX5_isCarriedBy_39 : decode cX5_isCarriedBy 39 = .ok (.iaload, 1) := by decide +kernel
theorem dX5_isCarriedBy_40 : decode cX5_isCarriedBy 40 = .ok (.bipush 100, 2) := by decide +kernel
theorem dX5_isCarriedBy_42 : decode cX5_isCarriedBy 42 = .ok (.imul, 1) := by decide +kernel
theorem dX5_isCarriedBy_43 : decode cX5_isCarriedBy 43 = .ok (.aload_n 0, 1) := by decide +kernel
theorem dX5_isCarriedBy_44 : decode cX5_isCarriedBy 44 = .ok (.getfield 48, 3) := by decide +kernel
theorem dX5_isCarriedBy_47 : decode cX5_isCarriedBy 47 = .ok (.iconst 1, 1) := by decide +kernel
theorem dX5_isCarriedBy_48 : decode cX5_isCarriedBy 48 = .ok (.iaload, 1) := by decide +kernel
theorem dX5_isCarriedBy_49 : decode cX5_isCarriedBy 49 = .ok (.iload_n 2, 1) := by decide +kernel
theorem dX5_isCarriedBy_50 : decode cX5_isCarriedBy 50 = .ok (.imul, 1) := by decide +kernel
theorem dX5_isCarriedBy_51 : decode cX5_isCarriedBy 51 = .ok (.if_icmp .lt 7, 3) := by decide +kernel
theorem dX5_isCarriedBy_54 : decode cX5_isCarriedBy 54 = .ok (.iconst 1, 1) := by decide +kernel
theorem dX5_isCarriedBy_55 : decode cX5_isCarriedBy 55 = .ok (.goto 4, 3) := by decide +kernel
theorem dX5_isCarriedBy_58 : decode cX5_isCarriedBy 58 = .ok (.iconst 0, 1) := by decide +kernel
theorem dX5_isCarriedBy_59 : decode cX5_isCarriedBy 59 = .ok (.ireturn, 1) := by decide +kernel
theorem dX5_endBallot_0 : decode cX5_endBallot 0 = .ok (.aload_n 0, 1) := by decide +kernel
theorem dX5_endBallot_1 : decode cX5_endBallot 1 = .ok (.invokevirtual 137, 3) := by decide +kernel
theorem dX5_endBallot_4 : decode cX5_endBallot 4 = .ok (.aload_n 0, 1) := by decide +kernel
theorem dX5_endBallot_5 : decode cX5_endBallot 5 = .ok (.getfield 12, 3) := by decide +kernel
theorem dX5_endBallot_8 : decode cX5_endBallot 8 = .ok (.invokevirtual 140, 3) := by decide +kernel
theorem dX5_endBallot_11 : decode cX5_endBallot 11 = .ok (.aload_n 0, 1) := by decide +kernel
theorem dX5_endBallot_12 : decode cX5_endBallot 12 = .ok (.getfield 28, 3) := by decide +kernel
theorem dX5_endBallot_15 : decode cX5_endBallot 15 = .ok (.iconst 0, 1) := by decide +kernel
theorem dX5_endBallot_16 : decode cX5_endBallot 16 = .ok (.putfield 89, 3) := by decide +kernel
theorem dX5_endBallot_19 : decode cX5_endBallot 19 = .ok (.aload_n 0, 1) := by decide +kernel
theorem dX5_endBallot_20 : decode cX5_endBallot 20 = .ok (.getfield 28, 3) := by decide +kernel
theorem dX5_endBallot_23 : decode cX5_endBallot 23 = .ok (.getfield 121, 3) := by decide +kernel
theorem dX5_endBallot_26 : decode cX5_endBallot 26 = .ok (.iconst 5, 1) := by decide +kernel
theorem dX5_endBallot_27 : decode cX5_endBallot 27 = .ok (.iaload, 1) := by decide +kernel
theorem dX5_endBallot_28 : decode cX5_endBallot 28 = .ok (.iconst 1, 1) := by decide +kernel
theorem dX5_endBallot_29 : decode cX5_endBallot 29 = .ok (.if_icmp .ne 13, 3) := by decide +kernel
theorem dX5_endBallot_32 : decode cX5_endBallot 32 = .ok (.aload_n 0, 1) := by decide +kernel
theorem dX5_endBallot_33 : decode cX5_endBallot 33 = .ok (.getfield 35, 3) := by decide +kernel
theorem dX5_endBallot_36 : decode cX5_endBallot 36 = .ok (.invokevirtual 143, 3) := by decide +kernel
theorem dX5_endBallot_39 : decode cX5_endBallot 39 = .ok (.goto 11, 3) := by decide +kernel
theorem dX5_endBallot_42 : decode cX5_endBallot 42 = .ok (.aload_n 0, 1) := by decide +kernel
theorem dX5_endBallot_43 : decode cX5_endBallot 43 = .ok (.getfield 35, 3) := by decide +kernel
theorem dX5_endBallot_46 : decode cX5_endBallot 46 = .ok (.iconst 0, 1) := by decide +kernel
theorem dX5_endBallot_47 : decode cX5_endBallot 47 = .ok (.putfield 102, 3) := by decide +kernel
theorem dX5_endBallot_50 : decode cX5_endBallot 50 = .ok (.return_, 1) := by decide +kernel
theorem dX5_settle_0 : decode cX5_settle 0 = .ok (.aload_n 0, 1) := by decide +kernel
theorem dX5_settle_1 : decode cX5_settle 1 = .ok (.getfield 35, 3) := by decide +kernel
theorem dX5_settle_4 : decode cX5_settle 4 = .ok (.iload_n 1, 1) := by decide +kernel
theorem dX5_settle_5 : decode cX5_settle 5 = .ok (.iload_n 2, 1) := by decide +kernel
theorem dX5_settle_6 : decode cX5_settle 6 = .ok (.iload_n 3, 1) := by decide +kernel
theorem dX5_settle_7 : decode cX5_settle 7 = .ok (.aload_n 0, 1) := by decide +kernel
theorem dX5_settle_8 : decode cX5_settle 8 = .ok (.getfield 68, 3) := by decide +kernel
theorem dX5_settle_11 : decode cX5_settle 11 = .ok (.invokevirtual 146, 3) := by decide +kernel
theorem dX5_settle_14 : decode cX5_settle 14 = .ok (.aload_n 0, 1) := by decide +kernel
theorem dX5_settle_15 : decode cX5_settle 15 = .ok (.getfield 35, 3) := by decide +kernel
theorem dX5_settle_18 : decode cX5_settle 18 = .ok (.iload_n 1, 1) := by decide +kernel
theorem dX5_settle_19 : decode cX5_settle 19 = .ok (.invokevirtual 150, 3) := by decide +kernel
theorem dX5_settle_22 : decode cX5_settle 22 = .ok (.ifCond .eq 21, 3) := by decide +kernel
theorem dX5_settle_25 : decode cX5_settle 25 = .ok (.aload_n 0, 1) := by decide +kernel
theorem dX5_settle_26 : decode cX5_settle 26 = .ok (.getfield 21, 3) := by decide +kernel
theorem dX5_settle_29 : decode cX5_settle 29 = .ok (.getfield 115, 3) := by decide +kernel
theorem dX5_settle_32 : decode cX5_settle 32 = .ok (.aload_n 0, 1) := by decide +kernel
theorem dX5_settle_33 : decode cX5_settle 33 = .ok (.getfield 35, 3) := by decide +kernel
theorem dX5_settle_36 : decode cX5_settle 36 = .ok (.getfield 153, 3) := by decide +kernel
theorem dX5_settle_39 : decode cX5_settle 39 = .ok (.iload_n 1, 1) := by decide +kernel
theorem dX5_settle_40 : decode cX5_settle 40 = .ok (.iaload, 1) := by decide +kernel
theorem dX5_settle_41 : decode cX5_settle 41 = .ok (.iload_n 3, 1) := by decide +kernel
theorem dX5_settle_42 : decode cX5_settle 42 = .ok (.iastore, 1) := by decide +kernel
theorem dX5_settle_43 : decode cX5_settle 43 = .ok (.aload_n 0, 1) := by decide +kernel
theorem dX5_settle_44 : decode cX5_settle 44 = .ok (.getfield 35, 3) := by decide +kernel
theorem dX5_settle_47 : decode cX5_settle 47 = .ok (.invokevirtual 156, 3) := by decide +kernel
theorem dX5_settle_50 : decode cX5_settle 50 = .ok (.ifCond .ne 17, 3) := by decide +kernel
theorem dX5_settle_53 : decode cX5_settle 53 = .ok (.aload_n 0, 1) := by decide +kernel
theorem dX5_settle_54 : decode cX5_settle 54 = .ok (.getfield 21, 3) := by decide +kernel
theorem dX5_settle_57 : decode cX5_settle 57 = .ok (.invokevirtual 160, 3) := by decide +kernel
theorem dX5_settle_60 : decode cX5_settle 60 = .ok (.ifCond .eq 7, 3) := by decide +kernel
theorem dX5_settle_63 : decode cX5_settle 63 = .ok (.aload_n 0, 1) := by decide +kernel
theorem dX5_settle_64 : decode cX5_settle 64 = .ok (.invokevirtual 164, 3) := by decide +kernel
theorem dX5_settle_67 : decode cX5_settle 67 = .ok (.return_, 1) := by decide +kernel
theorem dX5_bringEdition_0 : decode cX5_bringEdition 0 = .ok (.aload_n 0, 1) := by decide +kernel
theorem dX5_bringEdition_1 : decode cX5_bringEdition 1 = .ok (.getfield 21, 3) := by decide +kernel
theorem dX5_bringEdition_4 : decode cX5_bringEdition 4 = .ok (.getfield 167, 3) := by decide +kernel
theorem dX5_bringEdition_7 : decode cX5_bringEdition 7 = .ok (.bipush 12, 2) := by decide +kernel
theorem dX5_bringEdition_9 : decode cX5_bringEdition 9 = .ok (.if_icmp .lt 4, 3) := by decide +kernel
theorem dX5_bringEdition_12 : decode cX5_bringEdition 12 = .ok (.return_, 1) := by decide +kernel
theorem dX5_bringEdition_13 : decode cX5_bringEdition 13 = .ok (.aload_n 0, 1) := by decide +kernel
theorem dX5_bringEdition_14 : decode cX5_bringEdition 14 = .ok (.getfield 21, 3) := by decide +kernel
theorem dX5_bringEdition_17 : decode cX5_bringEdition 17 = .ok (.dup, 1) := by decide +kernel
theorem dX5_bringEdition_18 : decode cX5_bringEdition 18 = .ok (.getfield 167, 3) := by decide +kernel
theorem dX5_bringEdition_21 : decode cX5_bringEdition 21 = .ok (.iconst 1, 1) := by decide +kernel
theorem dX5_bringEdition_22 : decode cX5_bringEdition 22 = .ok (.iadd, 1) := by decide +kernel
theorem dX5_bringEdition_23 : decode cX5_bringEdition 23 = .ok (.putfield 167, 3) := by decide +kernel
theorem dX5_bringEdition_26 : decode cX5_bringEdition 26 = .ok (.aload_n 0, 1) := by decide +kernel
theorem dX5_bringEdition_27 : decode cX5_bringEdition 27 = .ok (.getfield 21, 3) := by decide +kernel
theorem dX5_bringEdition_30 : decode cX5_bringEdition 30 = .ok (.getfield 170, 3) := by decide +kernel
theorem dX5_bringEdition_33 : decode cX5_bringEdition 33 = .ok (.aload_n 0, 1) := by decide +kernel
theorem dX5_bringEdition_34 : decode cX5_bringEdition 34 = .ok (.getfield 21, 3) := by decide +kernel
theorem dX5_bringEdition_37 : decode cX5_bringEdition 37 = .ok (.getfield 167, 3) := by decide +kernel
theorem dX5_bringEdition_40 : decode cX5_bringEdition 40 = .ok (.iconst 1, 1) := by decide +kernel
theorem dX5_bringEdition_41 : decode cX5_bringEdition 41 = .ok (.isub, 1) := by decide +kernel
theorem dX5_bringEdition_42 : decode cX5_bringEdition 42 = .ok (.aload_n 0, 1) := by decide +kernel
theorem dX5_bringEdition_43 : decode cX5_bringEdition 43 = .ok (.getfield 28, 3) := by decide +kernel
theorem dX5_bringEdition_46 : decode cX5_bringEdition 46 = .ok (.getfield 96, 3) := by decide +kernel
theorem dX5_bringEdition_49 : decode cX5_bringEdition 49 = .ok (.iastore, 1) := by decide +kernel
theorem dX5_bringEdition_50 : decode cX5_bringEdition 50 = .ok (.aload_n 0, 1) := by decide +kernel
theorem dX5_bringEdition_51 : decode cX5_bringEdition 51 = .ok (.getfield 28, 3) := by decide +kernel
theorem dX5_bringEdition_54 : decode cX5_bringEdition 54 = .ok (.iconst 1, 1) := by decide +kernel
theorem dX5_bringEdition_55 : decode cX5_bringEdition 55 = .ok (.putfield 93, 3) := by decide +kernel
theorem dX5_bringEdition_58 : decode cX5_bringEdition 58 = .ok (.iconst 0, 1) := by decide +kernel
theorem dX5_bringEdition_59 : decode cX5_bringEdition 59 = .ok (.istore_n 1, 1) := by decide +kernel
theorem dX5_bringEdition_60 : decode cX5_bringEdition 60 = .ok (.iload_n 1, 1) := by decide +kernel
theorem dX5_bringEdition_61 : decode cX5_bringEdition 61 = .ok (.aload_n 0, 1) := by decide +kernel
theorem dX5_bringEdition_62 : decode cX5_bringEdition 62 = .ok (.getfield 21, 3) := by decide +kernel
theorem dX5_bringEdition_65 : decode cX5_bringEdition 65 = .ok (.getfield 173, 3) := by decide +kernel
theorem dX5_bringEdition_68 : decode cX5_bringEdition 68 = .ok (.if_icmp .ge 59, 3) := by decide +kernel
theorem dX5_bringEdition_71 : decode cX5_bringEdition 71 = .ok (.aload_n 0, 1) := by decide +kernel
theorem dX5_bringEdition_72 : decode cX5_bringEdition 72 = .ok (.getfield 21, 3) := by decide +kernel
theorem dX5_bringEdition_75 : decode cX5_bringEdition 75 = .ok (.getfield 167, 3) := by decide +kernel
theorem dX5_bringEdition_78 : decode cX5_bringEdition 78 = .ok (.iload_n 1, 1) := by decide +kernel
theorem dX5_bringEdition_79 : decode cX5_bringEdition 79 = .ok (.invokestatic 174, 3) := by decide +kernel
theorem dX5_bringEdition_82 : decode cX5_bringEdition 82 = .ok (.istore_n 2, 1) := by decide +kernel
theorem dX5_bringEdition_83 : decode cX5_bringEdition 83 = .ok (.aload_n 0, 1) := by decide +kernel
theorem dX5_bringEdition_84 : decode cX5_bringEdition 84 = .ok (.getfield 21, 3) := by decide +kernel
theorem dX5_bringEdition_87 : decode cX5_bringEdition 87 = .ok (.getfield 115, 3) := by decide +kernel
theorem dX5_bringEdition_90 : decode cX5_bringEdition 90 = .ok (.iload_n 1, 1) := by decide +kernel
theorem dX5_bringEdition_91 : decode cX5_bringEdition 91 = .ok (.iaload, 1) := by decide +kernel
theorem dX5_bringEdition_92 : decode cX5_bringEdition 92 = .ok (.istore_n 3, 1) := by decide +kernel
theorem dX5_bringEdition_93 : decode cX5_bringEdition 93 = .ok (.aload_n 0, 1) := by decide +kernel
theorem dX5_bringEdition_94 : decode cX5_bringEdition 94 = .ok (.getfield 21, 3) := by decide +kernel
theorem dX5_bringEdition_97 : decode cX5_bringEdition 97 = .ok (.getfield 178, 3) := by decide +kernel
theorem dX5_bringEdition_100 : decode cX5_bringEdition 100 = .ok (.iload_n 2, 1) := by decide +kernel
theorem dX5_bringEdition_101 : decode cX5_bringEdition 101 = .ok (.iload_n 3, 1) := by decide +kernel
theorem dX5_bringEdition_102 : decode cX5_bringEdition 102 = .ok (.iastore, 1) := by decide +kernel
theorem dX5_bringEdition_103 : decode cX5_bringEdition 103 = .ok (.aload_n 0, 1) := by decide +kernel
theorem dX5_bringEdition_104 : decode cX5_bringEdition 104 = .ok (.getfield 21, 3) := by decide +kernel
theorem dX5_bringEdition_107 : decode cX5_bringEdition 107 = .ok (.getfield 181, 3) := by decide +kernel
theorem dX5_bringEdition_110 : decode cX5_bringEdition 110 = .ok (.iload_n 2, 1) := by decide +kernel
theorem dX5_bringEdition_111 : decode cX5_bringEdition 111 = .ok (.aload_n 0, 1) := by decide +kernel
theorem dX5_bringEdition_112 : decode cX5_bringEdition 112 = .ok (.getfield 35, 3) := by decide +kernel
theorem dX5_bringEdition_115 : decode cX5_bringEdition 115 = .ok (.iload_n 1, 1) := by decide +kernel
theorem dX5_bringEdition_116 : decode cX5_bringEdition 116 = .ok (.iload_n 3, 1) := by decide +kernel
theorem dX5_bringEdition_117 : decode cX5_bringEdition 117 = .ok (.invokevirtual 184, 3) := by decide +kernel
theorem dX5_bringEdition_120 : decode cX5_bringEdition 120 = .ok (.iastore, 1) := by decide +kernel
theorem dX5_bringEdition_121 : decode cX5_bringEdition 121 = .ok (.iinc 1 1, 3) := by decide +kernel
theorem dX5_bringEdition_124 : decode cX5_bringEdition 124 = .ok (.goto (-64), 3) := by decide +kernel
theorem dX5_bringEdition_127 : decode cX5_bringEdition 127 = .ok (.return_, 1) := by decide +kernel
theorem dX5_reopen_0 : decode cX5_reopen 0 = .ok (.aload_n 0, 1) := by decide +kernel
theorem dX5_reopen_1 : decode cX5_reopen 1 = .ok (.getfield 35, 3) := by decide +kernel
theorem dX5_reopen_4 : decode cX5_reopen 4 = .ok (.iload_n 1, 1) := by decide +kernel
theorem dX5_reopen_5 : decode cX5_reopen 5 = .ok (.invokevirtual 150, 3) := by decide +kernel
theorem dX5_reopen_8 : decode cX5_reopen 8 = .ok (.istore_n 2, 1) := by decide +kernel
theorem dX5_reopen_9 : decode cX5_reopen 9 = .ok (.aload_n 0, 1) := by decide +kernel
theorem dX5_reopen_10 : decode cX5_reopen 10 = .ok (.getfield 35, 3) := by decide +kernel
theorem dX5_reopen_13 : decode cX5_reopen 13 = .ok (.getfield 153, 3) := by decide +kernel
theorem dX5_reopen_16 : decode cX5_reopen 16 = .ok (.iload_n 1, 1) := by decide +kernel
theorem dX5_reopen_17 : decode cX5_reopen 17 = .ok (.iaload, 1) := by decide +kernel
theorem dX5_reopen_18 : decode cX5_reopen 18 = .ok (.istore_n 3, 1) := by decide +kernel
theorem dX5_reopen_19 : decode cX5_reopen 19 = .ok (.aload_n 0, 1) := by decide +kernel
theorem dX5_reopen_20 : decode cX5_reopen 20 = .ok (.getfield 35, 3) := by decide +kernel
theorem dX5_reopen_23 : decode cX5_reopen 23 = .ok (.getfield 187, 3) := by decide +kernel
theorem dX5_reopen_26 : decode cX5_reopen 26 = .ok (.iload_n 1, 1) := by decide +kernel
theorem dX5_reopen_27 : decode cX5_reopen 27 = .ok (.iconst 1, 1) := by decide +kernel
theorem dX5_reopen_28 : decode cX5_reopen 28 = .ok (.iastore, 1) := by decide +kernel
theorem dX5_reopen_29 : decode cX5_reopen 29 = .ok (.iload_n 2, 1) := by decide +kernel
theorem dX5_reopen_30 : decode cX5_reopen 30 = .ok (.ifCond .eq 42, 3) := by decide +kernel
theorem dX5_reopen_33 : decode cX5_reopen 33 = .ok (.aload_n 0, 1) := by decide +kernel
theorem dX5_reopen_34 : decode cX5_reopen 34 = .ok (.getfield 35, 3) := by decide +kernel
theorem dX5_reopen_37 : decode cX5_reopen 37 = .ok (.iload_n 3, 1) := by decide +kernel
theorem dX5_reopen_38 : decode cX5_reopen 38 = .ok (.aload_n 0, 1) := by decide +kernel
theorem dX5_reopen_39 : decode cX5_reopen 39 = .ok (.getfield 21, 3) := by decide +kernel
theorem dX5_reopen_42 : decode cX5_reopen 42 = .ok (.getfield 115, 3) := by decide +kernel
theorem dX5_reopen_45 : decode cX5_reopen 45 = .ok (.iload_n 3, 1) := by decide +kernel
theorem dX5_reopen_46 : decode cX5_reopen 46 = .ok (.iaload, 1) := by decide +kernel
theorem dX5_reopen_47 : decode cX5_reopen 47 = .ok (.invokevirtual 184, 3) := by decide +kernel
theorem dX5_reopen_50 : decode cX5_reopen 50 = .ok (.iconst (-1), 1) := by decide +kernel
theorem dX5_reopen_51 : decode cX5_reopen 51 = .ok (.if_icmp .ne 21, 3) := by decide +kernel
theorem dX5_reopen_54 : decode cX5_reopen 54 = .ok (.aload_n 0, 1) := by decide +kernel
theorem dX5_reopen_55 : decode cX5_reopen 55 = .ok (.getfield 21, 3) := by decide +kernel
theorem dX5_reopen_58 : decode cX5_reopen 58 = .ok (.getfield 115, 3) := by decide +kernel
theorem dX5_reopen_61 : decode cX5_reopen 61 = .ok (.iload_n 3, 1) := by decide +kernel
theorem dX5_reopen_62 : decode cX5_reopen 62 = .ok (.aload_n 0, 1) := by decide +kernel
theorem dX5_reopen_63 : decode cX5_reopen 63 = .ok (.getfield 21, 3) := by decide +kernel
theorem dX5_reopen_66 : decode cX5_reopen 66 = .ok (.getfield 118, 3) := by decide +kernel
theorem dX5_reopen_69 : decode cX5_reopen 69 = .ok (.iload_n 3, 1) := by decide +kernel
theorem dX5_reopen_70 : decode cX5_reopen 70 = .ok (.iaload, 1) := by decide +kernel
theorem dX5_reopen_71 : decode cX5_reopen 71 = .ok (.iastore, 1) := by decide +kernel
theorem dX5_reopen_72 : decode cX5_reopen 72 = .ok (.aload_n 0, 1) := by decide +kernel
theorem dX5_reopen_73 : decode cX5_reopen 73 = .ok (.getfield 28, 3) := by decide +kernel
theorem dX5_reopen_76 : decode cX5_reopen 76 = .ok (.getfield 93, 3) := by decide +kernel
theorem dX5_reopen_79 : decode cX5_reopen 79 = .ok (.ifCond .eq 24, 3) := by decide +kernel
theorem dX5_reopen_82 : decode cX5_reopen 82 = .ok (.aload_n 0, 1) := by decide +kernel
theorem dX5_reopen_83 : decode cX5_reopen 83 = .ok (.getfield 28, 3) := by decide +kernel
theorem dX5_reopen_86 : decode cX5_reopen 86 = .ok (.iconst 0, 1) := by decide +kernel
theorem dX5_reopen_87 : decode cX5_reopen 87 = .ok (.putfield 93, 3) := by decide +kernel
theorem dX5_reopen_90 : decode cX5_reopen 90 = .ok (.aload_n 0, 1) := by decide +kernel
theorem dX5_reopen_91 : decode cX5_reopen 91 = .ok (.getfield 21, 3) := by decide +kernel
theorem dX5_reopen_94 : decode cX5_reopen 94 = .ok (.dup, 1) := by decide +kernel
theorem dX5_reopen_95 : decode cX5_reopen 95 = .ok (.getfield 167, 3) := by decide +kernel
theorem dX5_reopen_98 : decode cX5_reopen 98 = .ok (.iconst 1, 1) := by decide +kernel
theorem dX5_reopen_99 : decode cX5_reopen 99 = .ok (.isub, 1) := by decide +kernel
theorem dX5_reopen_100 : decode cX5_reopen 100 = .ok (.putfield 167, 3) := by decide +kernel
theorem dX5_reopen_103 : decode cX5_reopen 103 = .ok (.return_, 1) := by decide +kernel
theorem dX6_init_0 : decode cX6_init 0 = .ok (.aload_n 0, 1) := by decide +kernel
theorem dX6_init_1 : decode cX6_init 1 = .ok (.invokespecial 3, 3) := by decide +kernel
theorem dX6_init_4 : decode cX6_init 4 = .ok (.aload_n 0, 1) := by decide +kernel
theorem dX6_init_5 : decode cX6_init 5 = .ok (.bipush 80, 2) := by decide +kernel
theorem dX6_init_7 : decode cX6_init 7 = .ok (.newarray .char, 2) := by decide +kernel
theorem dX6_init_9 : decode cX6_init 9 = .ok (.putfield 9, 3) := by decide +kernel
theorem dX6_init_12 : decode cX6_init 12 = .ok (.return_, 1) := by decide +kernel
theorem dX6_append_0 : decode cX6_append 0 = .ok (.aload_n 0, 1) := by decide +kernel
theorem dX6_append_1 : decode cX6_append 1 = .ok (.getfield 15, 3) := by decide +kernel
theorem dX6_append_4 : decode cX6_append 4 = .ok (.bipush 80, 2) := by decide +kernel
theorem dX6_append_6 : decode cX6_append 6 = .ok (.if_icmp .ge 23, 3) := by decide +kernel
theorem dX6_append_9 : decode cX6_append 9 = .ok (.aload_n 0, 1) := by decide +kernel
theorem dX6_append_10 : decode cX6_append 10 = .ok (.getfield 9, 3) := by decide +kernel
theorem dX6_append_13 : decode cX6_append 13 = .ok (.aload_n 0, 1) := by decide +kernel
theorem dX6_append_14 : decode cX6_append 14 = .ok (.getfield 15, 3) := by decide +kernel
theorem dX6_append_17 : decode cX6_append 17 = .ok (.iload_n 1, 1) := by decide +kernel
theorem dX6_append_18 : decode cX6_append 18 = .ok (.castore, 1) := by decide +kernel
theorem dX6_append_19 : decode cX6_append 19 = .ok (.aload_n 0, 1) := by decide +kernel
theorem dX6_append_20 : decode cX6_append 20 = .ok (.dup, 1) := by decide +kernel
theorem dX6_append_21 : decode cX6_append 21 = .ok (.getfield 15, 3) := by decide +kernel
theorem dX6_append_24 : decode cX6_append 24 = .ok (.iconst 1, 1) := by decide +kernel
theorem dX6_append_25 : decode cX6_append 25 = .ok (.iadd, 1) := by decide +kernel
theorem dX6_append_26 : decode cX6_append 26 = .ok (.putfield 15, 3) := by decide +kernel
theorem dX6_append_29 : decode cX6_append 29 = .ok (.return_, 1) := by decide +kernel
theorem dX6_rewind_0 : decode cX6_rewind 0 = .ok (.aload_n 0, 1) := by decide +kernel
theorem dX6_rewind_1 : decode cX6_rewind 1 = .ok (.iconst 0, 1) := by decide +kernel
theorem dX6_rewind_2 : decode cX6_rewind 2 = .ok (.putfield 19, 3) := by decide +kernel
theorem dX6_rewind_5 : decode cX6_rewind 5 = .ok (.aload_n 0, 1) := by decide +kernel
theorem dX6_rewind_6 : decode cX6_rewind 6 = .ok (.iconst 0, 1) := by decide +kernel
theorem dX6_rewind_7 : decode cX6_rewind 7 = .ok (.putfield 22, 3) := by decide +kernel
theorem dX6_rewind_10 : decode cX6_rewind 10 = .ok (.return_, 1) := by decide +kernel
theorem dX6_isAtEnd_0 : decode cX6_isAtEnd 0 = .ok (.aload_n 0, 1) := by decide +kernel
theorem dX6_isAtEnd_1 : decode cX6_isAtEnd 1 = .ok (.getfield 22, 3) := by decide +kernel
theorem dX6_isAtEnd_4 : decode cX6_isAtEnd 4 = .ok (.aload_n 0, 1) := by decide +kernel
theorem dX6_isAtEnd_5 : decode cX6_isAtEnd 5 = .ok (.getfield 15, 3) := by decide +kernel
theorem dX6_isAtEnd_8 : decode cX6_isAtEnd 8 = .ok (.if_icmp .lt 7, 3) := by decide +kernel
theorem dX6_isAtEnd_11 : decode cX6_isAtEnd 11 = .ok (.iconst 1, 1) := by decide +kernel
theorem dX6_isAtEnd_12 : decode cX6_isAtEnd 12 = .ok (.goto 4, 3) := by decide +kernel
theorem dX6_isAtEnd_15 : decode cX6_isAtEnd 15 = .ok (.iconst 0, 1) := by decide +kernel
theorem dX6_isAtEnd_16 : decode cX6_isAtEnd 16 = .ok (.ireturn, 1) := by decide +kernel
theorem dX6_readComment_0 : decode cX6_readComment 0 = .ok (.aload_n 0, 1) := by decide +kernel
theorem dX6_readComment_1 : decode cX6_readComment 1 = .ok (.aload_n 0, 1) := by decide +kernel
theorem dX6_readComment_2 : decode cX6_readComment 2 = .ok (.getfield 22, 3) := by decide +kernel
theorem dX6_readComment_5 : decode cX6_readComment 5 = .ok (.putfield 19, 3) := by decide +kernel
theorem dX6_readComment_8 : decode cX6_readComment 8 = .ok (.aload_n 0, 1) := by decide +kernel
theorem dX6_readComment_9 : decode cX6_readComment 9 = .ok (.aload_n 0, 1) := by decide +kernel
theorem dX6_readComment_10 : decode cX6_readComment 10 = .ok (.getfield 19, 3) := by decide +kernel
theorem dX6_readComment_13 : decode cX6_readComment 13 = .ok (.iconst 2, 1) := by decide +kernel
theorem dX6_readComment_14 : decode cX6_readComment 14 = .ok (.invokevirtual 25, 3) := by decide +kernel
theorem dX6_readComment_17 : decode cX6_readComment 17 = .ok (.istore_n 1, 1) := by decide +kernel
theorem dX6_readComment_18 : decode cX6_readComment 18 = .ok (.aload_n 0, 1) := by decide +kernel
theorem dX6_readComment_19 : decode cX6_readComment 19 = .ok (.getfield 19, 3) := by decide +kernel
theorem dX6_readComment_22 : decode cX6_readComment 22 = .ok (.iload_n 1, 1) := by decide +kernel
theorem dX6_readComment_23 : decode cX6_readComment 23 = .ok (.iadd, 1) := by decide +kernel
theorem dX6_readComment_24 : decode cX6_readComment 24 = .ok (.istore_n 2, 1) := by decide +kernel
theorem dX6_readComment_25 : decode cX6_readComment 25 = .ok (.aload_n 0, 1) := by decide +kernel
theorem dX6_readComment_26 : decode cX6_readComment 26 = .ok (.aload_n 0, 1) := by decide +kernel
theorem dX6_readComment_27 : decode cX6_readComment 27 = .ok (.aload_n 0, 1) := by decide +kernel
theorem dX6_readComment_28 : decode cX6_readComment 28 = .ok (.getfield 19, 3) := by decide +kernel
theorem dX6_readComment_31 : decode cX6_readComment 31 = .ok (.iload_n 1, 1) := by decide +kernel
theorem dX6_readComment_32 : decode cX6_readComment 32 = .ok (.invokevirtual 29, 3) := by decide +kernel
theorem dX6_readComment_35 : decode cX6_readComment 35 = .ok (.putfield 32, 3) := by decide +kernel
theorem dX6_readComment_38 : decode cX6_readComment 38 = .ok (.aload_n 0, 1) := by decide +kernel
theorem dX6_readComment_39 : decode cX6_readComment 39 = .ok (.aload_n 0, 1) := by decide +kernel
theorem dX6_readComment_40 : decode cX6_readComment 40 = .ok (.iload_n 2, 1) := by decide +kernel
theorem dX6_readComment_41 : decode cX6_readComment 41 = .ok (.invokevirtual 35, 3) := by decide +kernel
theorem dX6_readComment_44 : decode cX6_readComment 44 = .ok (.bipush 116, 2) := by decide +kernel
theorem dX6_readComment_46 : decode cX6_readComment 46 = .ok (.if_icmp .ne 7, 3) := by decide +kernel
theorem dX6_readComment_49 : decode cX6_readComment 49 = .ok (.iconst 1, 1) := by decide +kernel
theorem dX6_readComment_50 : decode cX6_readComment 50 = .ok (.goto 4, 3) := by decide +kernel
theorem dX6_readComment_53 : decode cX6_readComment 53 = .ok (.iconst 0, 1) := by decide +kernel
theorem dX6_readComment_54 : decode cX6_readComment 54 = .ok (.putfield 39, 3) := by decide +kernel
theorem dX6_readComment_57 : decode cX6_readComment 57 = .ok (.aload_n 0, 1) := by decide +kernel
theorem dX6_readComment_58 : decode cX6_readComment 58 = .ok (.iload_n 2, 1) := by decide +kernel
theorem dX6_readComment_59 : decode cX6_readComment 59 = .ok (.invokevirtual 35, 3) := by decide +kernel
theorem dX6_readComment_62 : decode cX6_readComment 62 = .ok (.bipush 116, 2) := by decide +kernel
theorem dX6_readComment_64 : decode cX6_readComment 64 = .ok (.if_icmp .eq 13, 3) := by decide +kernel
theorem dX6_readComment_67 : decode cX6_readComment 67 = .ok (.aload_n 0, 1) := by decide +kernel
theorem dX6_readComment_68 : decode cX6_readComment 68 = .ok (.iload_n 2, 1) := by decide +kernel
theorem dX6_readComment_69 : decode cX6_readComment 69 = .ok (.invokevirtual 35, 3) := by decide +kernel
theorem dX6_readComment_72 : decode cX6_readComment 72 = .ok (.bipush 101, 2) := by decide +kernel
theorem dX6_readComment_74 : decode cX6_readComment 74 = .ok (.if_icmp .ne 7, 3) := by decide +kernel
theorem dX6_readComment_77 : decode cX6_readComment 77 = .ok (.iconst 1, 1) := by decide +kernel
theorem dX6_readComment_78 : decode cX6_readComment 78 = .ok (.goto 4, 3) := by decide +kernel
theorem dX6_readComment_81 : decode cX6_readComment 81 = .ok (.iconst 0, 1) := by decide +kernel
theorem dX6_readComment_82 : decode cX6_readComment 82 = .ok (.istore_n 3, 1) := by decide +kernel
theorem dX6_readComment_83 : decode cX6_readComment 83 = .ok (.iload_n 1, 1) := by decide +kernel
theorem dX6_readComment_84 : decode cX6_readComment 84 = .ok (.ifCond .eq 19, 3) := by decide +kernel
theorem dX6_readComment_87 : decode cX6_readComment 87 = .ok (.iload_n 3, 1) := by decide +kernel
theorem dX6_readComment_88 : decode cX6_readComment 88 = .ok (.ifCond .eq 15, 3) := by decide +kernel
theorem dX6_readComment_91 : decode cX6_readComment 91 = .ok (.aload_n 0, 1) := by decide +kernel
theorem dX6_readComment_92 : decode cX6_readComment 92 = .ok (.iload_n 2, 1) := by decide +kernel
theorem dX6_readComment_93 : decode cX6_readComment 93 = .ok (.iconst 1, 1) := by decide +kernel
theorem dX6_readComment_94 : decode cX6_readComment 94 = .ok (.iadd, 1) := by decide +kernel
theorem dX6_readComment_95 : decode cX6_readComment 95 = .ok (.invokevirtual 35, 3) := by decide +kernel
theorem dX6_readComment_98 : decode cX6_readComment 98 = .ok (.bipush 61, 2) := by decide +kernel
theorem dX6_readComment_100 : decode cX6_readComment 100 = .ok (.if_icmp .eq 5, 3) := by decide +kernel
theorem dX6_readComment_103 : decode cX6_readComment 103 = .ok (.iconst 0, 1) := by decide +kernel
theorem dX6_readComment_104 : decode cX6_readComment 104 = .ok (.ireturn, 1) := by decide +kernel
theorem dX6_readComment_105 : decode cX6_readComment 105 = .ok (.aload_n 0, 1) := by decide +kernel
theorem dX6_readComment_106 : decode cX6_readComment 106 = .ok (.iload_n 2, 1) := by decide +kernel
theorem dX6_readComment_107 : decode cX6_readComment 107 = .ok (.iconst 2, 1) := by decide +kernel
theorem dX6_readComment_108 : decode cX6_readComment 108 = .ok (.iadd, 1) := by decide +kernel
theorem dX6_readComment_109 : decode cX6_readComment 109 = .ok (.iconst 4, 1) := by decide +kernel
theorem dX6_readComment_110 : decode cX6_readComment 110 = .ok (.invokevirtual 25, 3) := by decide +kernel
theorem dX6_readComment_113 : decode cX6_readComment 113 = .ok (.istore_n 1, 1) := by decide +kernel
theorem dX6_readComment_114 : decode cX6_readComment 114 = .ok (.aload_n 0, 1) := by decide +kernel
theorem dX6_readComment_115 : decode cX6_readComment 115 = .ok (.aload_n 0, 1) := by decide +kernel
theorem dX6_readComment_116 : decode cX6_readComment 116 = .ok (.iload_n 2, 1) := by decide +kernel
theorem dX6_readComment_117 : decode cX6_readComment 117 = .ok (.iconst 2, 1) := by decide +kernel
theorem dX6_readComment_118 : decode cX6_readComment 118 = .ok (.iadd, 1) := by decide +kernel
theorem dX6_readComment_119 : decode cX6_readComment 119 = .ok (.iload_n 1, 1) := by decide +kernel
theorem dX6_readComment_120 : decode cX6_readComment 120 = .ok (.invokevirtual 29, 3) := by decide +kernel
theorem dX6_readComment_123 : decode cX6_readComment 123 = .ok (.putfield 42, 3) := by decide +kernel
theorem dX6_readComment_126 : decode cX6_readComment 126 = .ok (.aload_n 0, 1) := by decide +kernel
theorem dX6_readComment_127 : decode cX6_readComment 127 = .ok (.iload_n 2, 1) := by decide +kernel
theorem dX6_readComment_128 : decode cX6_readComment 128 = .ok (.iconst 2, 1) := by decide +kernel
theorem dX6_readComment_129 : decode cX6_readComment 129 = .ok (.iadd, 1) := by decide +kernel
theorem dX6_readComment_130 : decode cX6_readComment 130 = .ok (.iload_n 1, 1) := by decide +kernel
theorem dX6_readComment_131 : decode cX6_readComment 131 = .ok (.iadd, 1) := by decide +kernel
theorem dX6_readComment_132 : decode cX6_readComment 132 = .ok (.iconst 1, 1) := by decide +kernel
theorem dX6_readComment_133 : decode cX6_readComment 133 = .ok (.iadd, 1) := by decide +kernel
theorem dX6_readComment_134 : decode cX6_readComment 134 = .ok (.putfield 22, 3) := by decide +kernel
theorem dX6_readComment_137 : decode cX6_readComment 137 = .ok (.iload_n 1, 1) := by decide +kernel
theorem dX6_readComment_138 : decode cX6_readComment 138 = .ok (.ifCond .le 22, 3) := by decide +kernel
theorem dX6_readComment_141 : decode cX6_readComment 141 = .ok (.aload_n 0, 1) := by decide +kernel
theorem dX6_readComment_142 : decode cX6_readComment 142 = .ok (.aload_n 0, 1) := by decide +kernel
theorem dX6_readComment_143 : decode cX6_readComment 143 = .ok (.getfield 22, 3) := by decide +kernel
theorem dX6_readComment_146 : decode cX6_readComment 146 = .ok (.iconst 1, 1) := by decide +kernel
theorem dX6_readComment_147 : decode cX6_readComment 147 = .ok (.isub, 1) := by decide +kernel
theorem dX6_readComment_148 : decode cX6_readComment 148 = .ok (.invokevirtual 35, 3) := by decide +kernel
theorem dX6_readComment_151 : decode cX6_readComment 151 = .ok (.bipush 59, 2) := by decide +kernel
theorem dX6_readComment_153 : decode cX6_readComment 153 = .ok (.if_icmp .ne 7, 3) := by decide +kernel
theorem dX6_readComment_156 : decode cX6_readComment 156 = .ok (.iconst 1, 1) := by decide +kernel
theorem dX6_readComment_157 : decode cX6_readComment 157 = .ok (.goto 4, 3) := by decide +kernel
theorem dX6_readComment_160 : decode cX6_readComment 160 = .ok (.iconst 0, 1) := by decide +kernel
theorem dX6_readComment_161 : decode cX6_readComment 161 = .ok (.ireturn, 1) := by decide +kernel
theorem dX6_signAt_0 : decode cX6_signAt 0 = .ok (.iload_n 1, 1) := by decide +kernel
theorem dX6_signAt_1 : decode cX6_signAt 1 = .ok (.ifCond .lt 20, 3) := by decide +kernel
theorem dX6_signAt_4 : decode cX6_signAt 4 = .ok (.iload_n 1, 1) := by decide +kernel
theorem dX6_signAt_5 : decode cX6_signAt 5 = .ok (.aload_n 0, 1) := by decide +kernel
theorem dX6_signAt_6 : decode cX6_signAt 6 = .ok (.getfield 15, 3) := by decide +kernel
theorem dX6_signAt_9 : decode cX6_signAt 9 = .ok (.if_icmp .ge 12, 3) := by decide +kernel
theorem dX6_signAt_12 : decode cX6_signAt 12 = .ok (.aload_n 0, 1) := by decide +kernel
theorem dX6_signAt_13 : decode cX6_signAt 13 = .ok (.getfield 9, 3) := by decide +kernel
theorem dX6_signAt_16 : decode cX6_signAt 16 = .ok (.iload_n 1, 1) := by decide +kernel
theorem dX6_signAt_17 : decode cX6_signAt 17 = .ok (.caload, 1) := by decide +kernel
theorem dX6_signAt_18 : decode cX6_signAt 18 = .ok (.goto 4, 3) := by decide +kernel
theorem dX6_signAt_21 : decode cX6_signAt 21 = .ok (.iconst 0, 1) := by decide +kernel
theorem dX6_signAt_22 : decode cX6_signAt 22 = .ok (.ireturn, 1) := by decide +kernel
theorem dX6_digitsAt_0 : decode cX6_digitsAt 0 = .ok (.iconst 0, 1) := by decide +kernel
theorem dX6_digitsAt_1 : decode cX6_digitsAt 1 = .ok (.istore_n 3, 1) := by decide +kernel
theorem dX6_digitsAt_2 : decode cX6_digitsAt 2 = .ok (.iload_n 3, 1) := by decide +kernel
theorem dX6_digitsAt_3 : decode cX6_digitsAt 3 = .ok (.iload_n 2, 1) := by decide +kernel
theorem dX6_digitsAt_4 : decode cX6_digitsAt 4 = .ok (.if_icmp .ge 34, 3) := by decide +kernel
theorem dX6_digitsAt_7 : decode cX6_digitsAt 7 = .ok (.aload_n 0, 1) := by decide +kernel
theorem dX6_digitsAt_8 : decode cX6_digitsAt 8 = .ok (.iload_n 1, 1) := by decide +kernel
theorem dX6_digitsAt_9 : decode cX6_digitsAt 9 = .ok (.iload_n 3, 1) := by decide +kernel
theorem dX6_digitsAt_10 : decode cX6_digitsAt 10 = .ok (.iadd, 1) := by decide +kernel
theorem dX6_digitsAt_11 : decode cX6_digitsAt 11 = .ok (.invokevirtual 35, 3) := by decide +kernel
theorem dX6_digitsAt_14 : decode cX6_digitsAt 14 = .ok (.istore 4, 2) := by decide +kernel
theorem dX6_digitsAt_16 : decode cX6_digitsAt 16 = .ok (.iload 4, 2) := by decide +kernel
theorem dX6_digitsAt_18 : decode cX6_digitsAt 18 = .ok (.bipush 48, 2) := by decide +kernel
theorem dX6_digitsAt_20 : decode cX6_digitsAt 20 = .ok (.if_icmp .lt 10, 3) := by decide +kernel
theorem dX6_digitsAt_23 : decode cX6_digitsAt 23 = .ok (.iload 4, 2) := by decide +kernel
theorem dX6_digitsAt_25 : decode cX6_digitsAt 25 = .ok (.bipush 57, 2) := by decide +kernel
theorem dX6_digitsAt_27 : decode cX6_digitsAt 27 = .ok (.if_icmp .le 5, 3) := by decide +kernel
theorem dX6_digitsAt_30 : decode cX6_digitsAt 30 = .ok (.iload_n 3, 1) := by decide +kernel
theorem dX6_digitsAt_31 : decode cX6_digitsAt 31 = .ok (.ireturn, 1) := by decide +kernel
theorem dX6_digitsAt_32 : decode cX6_digitsAt 32 = .ok (.iinc 3 1, 3) := by decide +kernel
theorem dX6_digitsAt_35 : decode cX6_digitsAt 35 = .ok (.goto (-33), 3) := by decide +kernel
theorem dX6_digitsAt_38 : decode cX6_digitsAt 38 = .ok (.iload_n 2, 1) := by decide +kernel
theorem dX6_digitsAt_39 : decode cX6_digitsAt 39 = .ok (.ireturn, 1) := by decide +kernel
theorem dX6_numberAt_0 : decode cX6_numberAt 0 = .ok (.iconst 0, 1) := by decide +kernel
theorem dX6_numberAt_1 : decode cX6_numberAt 1 = .ok (.istore_n 3, 1) := by decide +kernel
theorem dX6_numberAt_2 : decode cX6_numberAt 2 = .ok (.iconst 0, 1) := by decide +kernel
theorem dX6_numberAt_3 : decode cX6_numberAt 3 = .ok (.istore 4, 2) := by decide +kernel
theorem dX6_numberAt_5 : decode cX6_numberAt 5 = .ok (.iload 4, 2) := by decide +kernel
theorem dX6_numberAt_7 : decode cX6_numberAt 7 = .ok (.iload_n 2, 1) := by decide +kernel
theorem dX6_numberAt_8 : decode cX6_numberAt 8 = .ok (.if_icmp .ge 26, 3) := by decide +kernel
theorem dX6_numberAt_11 : decode cX6_numberAt 11 = .ok (.iload_n 3, 1) := by decide +kernel
theorem dX6_numberAt_12 : decode cX6_numberAt 12 = .ok (.bipush 10, 2) := by decide +kernel
theorem dX6_numberAt_14 : decode cX6_numberAt 14 = .ok (.imul, 1) := by decide +kernel
theorem dX6_numberAt_15 : decode cX6_numberAt 15 = .ok (.aload_n 0, 1) := by decide +kernel
theorem dX6_numberAt_16 : decode cX6_numberAt 16 = .ok (.iload_n 1, 1) := by decide +kernel
theorem dX6_numberAt_17 : decode cX6_numberAt 17 = .ok (.iload 4, 2) := by decide +kernel
theorem dX6_numberAt_19 : decode cX6_numberAt 19 = .ok (.iadd, 1) := by decide +kernel
theorem dX6_numberAt_20 : decode cX6_numberAt 20 = .ok (.invokevirtual 35, 3) := by decide +kernel
theorem dX6_numberAt_23 : decode cX6_numberAt 23 = .ok (.iadd, 1) := by decide +kernel
theorem dX6_numberAt_24 : decode cX6_numberAt 24 = .ok (.bipush 48, 2) := by decide +kernel
theorem dX6_numberAt_26 : decode cX6_numberAt 26 = .ok (.isub, 1) := by decide +kernel
theorem dX6_numberAt_27 : decode cX6_numberAt 27 = .ok (.istore_n 3, 1) := by decide +kernel
theorem dX6_numberAt_28 : decode cX6_numberAt 28 = .ok (.iinc 4 1, 3) := by decide +kernel
theorem dX6_numberAt_31 : decode cX6_numberAt 31 = .ok (.goto (-26), 3) := by decide +kernel
theorem dX6_numberAt_34 : decode cX6_numberAt 34 = .ok (.iload_n 3, 1) := by decide +kernel
theorem dX6_numberAt_35 : decode cX6_numberAt 35 = .ok (.ireturn, 1) := by decide +kernel
end
section
theorem dX7_init_0 : decode cX7_init 0 = .ok (.aload_n 0, 1) := by decide +kernel
theorem dX7_init_1 : decode cX7_init 1 = .ok (.invokespecial 1, 3) := by decide +kernel
theorem dX7_init_4 : decode cX7_init 4 = .ok (.aload_n 0, 1) := by decide +kernel
theorem dX7_init_5 : decode cX7_init 5 = .ok (.new 7, 3) := by decide +kernel
theorem dX7_init_8 : decode cX7_init 8 = .ok (.dup, 1) := by decide +kernel
theorem dX7_init_9 : decode cX7_init 9 = .ok (.invokespecial 9, 3) := by decide +kernel
theorem dX7_init_12 : decode cX7_init 12 = .ok (.putfield 10, 3) := by decide +kernel
theorem dX7_init_15 : decode cX7_init 15 = .ok (.aload_n 0, 1) := by decide +kernel
theorem dX7_init_16 : decode cX7_init 16 = .ok (.new 16, 3) := by decide +kernel
theorem dX7_init_19 : decode cX7_init 19 = .ok (.dup, 1) := by decide +kernel
theorem dX7_init_20 : decode cX7_init 20 = .ok (.invokespecial 18, 3) := by decide +kernel
theorem dX7_init_23 : decode cX7_init 23 = .ok (.putfield 19, 3) := by decide +kernel
theorem dX7_init_26 : decode cX7_init 26 = .ok (.aload_n 0, 1) := by decide +kernel
theorem dX7_init_27 : decode cX7_init 27 = .ok (.new 23, 3) := by decide +kernel
theorem dX7_init_30 : decode cX7_init 30 = .ok (.dup, 1) := by decide +kernel
theorem dX7_init_31 : decode cX7_init 31 = .ok (.invokespecial 25, 3) := by decide +kernel
theorem dX7_init_34 : decode cX7_init 34 = .ok (.putfield 26, 3) := by decide +kernel
theorem dX7_init_37 : decode cX7_init 37 = .ok (.return_, 1) := by decide +kernel
theorem dX7_addMember_0 : decode cX7_addMember 0 = .ok (.iload_n 1, 1) := by decide +kernel
theorem dX7_addMember_1 : decode cX7_addMember 1 = .ok (.iconst 1, 1) := by decide +kernel
theorem dX7_addMember_2 : decode cX7_addMember 2 = .ok (.if_icmp .lt 9, 3) := by decide +kernel
theorem dX7_addMember_5 : decode cX7_addMember 5 = .ok (.iload_n 1, 1) := by decide +kernel
theorem dX7_addMember_6 : decode cX7_addMember 6 = .ok (.bipush 9, 2) := by decide +kernel
theorem dX7_addMember_8 : decode cX7_addMember 8 = .ok (.if_icmp .le 5, 3) := by decide +kernel
theorem dX7_addMember_11 : decode cX7_addMember 11 = .ok (.iconst (-1), 1) := by decide +kernel
theorem dX7_addMember_12 : decode cX7_addMember 12 = .ok (.ireturn, 1) := by decide +kernel
theorem dX7_addMember_13 : decode cX7_addMember 13 = .ok (.aload_n 0, 1) := by decide +kernel
theorem dX7_addMember_14 : decode cX7_addMember 14 = .ok (.getfield 10, 3) := by decide +kernel
theorem dX7_addMember_17 : decode cX7_addMember 17 = .ok (.getfield 30, 3) := by decide +kernel
theorem dX7_addMember_20 : decode cX7_addMember 20 = .ok (.getfield 34, 3) := by decide +kernel
theorem dX7_addMember_23 : decode cX7_addMember 23 = .ok (.bipush 10, 2) := by decide +kernel
theorem dX7_addMember_25 : decode cX7_addMember 25 = .ok (.if_icmp .lt 6, 3) := by decide +kernel
theorem dX7_addMember_28 : decode cX7_addMember 28 = .ok (.bipush (-3), 2) := by decide +kernel
theorem dX7_addMember_30 : decode cX7_addMember 30 = .ok (.ireturn, 1) := by decide +kernel
theorem dX7_addMember_31 : decode cX7_addMember 31 = .ok (.aload_n 0, 1) := by decide +kernel
theorem dX7_addMember_32 : decode cX7_addMember 32 = .ok (.getfield 19, 3) := by decide +kernel
theorem dX7_addMember_35 : decode cX7_addMember 35 = .ok (.aload_n 0, 1) := by decide +kernel
theorem dX7_addMember_36 : decode cX7_addMember 36 = .ok (.getfield 10, 3) := by decide +kernel
theorem dX7_addMember_39 : decode cX7_addMember 39 = .ok (.invokevirtual 40, 3) := by decide +kernel
theorem dX7_addMember_42 : decode cX7_addMember 42 = .ok (.aload_n 0, 1) := by decide +kernel
theorem dX7_addMember_43 : decode cX7_addMember 43 = .ok (.getfield 10, 3) := by decide +kernel
theorem dX7_addMember_46 : decode cX7_addMember 46 = .ok (.getfield 30, 3) := by decide +kernel
theorem dX7_addMember_49 : decode cX7_addMember 49 = .ok (.iload_n 1, 1) := by decide +kernel
theorem dX7_addMember_50 : decode cX7_addMember 50 = .ok (.invokevirtual 44, 3) := by decide +kernel
theorem dX7_addMember_53 : decode cX7_addMember 53 = .ok (.ireturn, 1) := by decide +kernel
theorem dX7_addClause_0 : decode cX7_addClause 0 = .ok (.iload_n 1, 1) := by decide +kernel
theorem dX7_addClause_1 : decode cX7_addClause 1 = .ok (.iconst 1, 1) := by decide +kernel
theorem dX7_addClause_2 : decode cX7_addClause 2 = .ok (.if_icmp .lt 16, 3) := by decide +kernel
theorem dX7_addClause_5 : decode cX7_addClause 5 = .ok (.iload_n 1, 1) := by decide +kernel
theorem dX7_addClause_6 : decode cX7_addClause 6 = .ok (.bipush 99, 2) := by decide +kernel
theorem dX7_addClause_8 : decode cX7_addClause 8 = .ok (.if_icmp .gt 10, 3) := by decide +kernel
theorem dX7_addClause_11 : decode cX7_addClause 11 = .ok (.iload_n 2, 1) := by decide +kernel
theorem dX7_addClause_12 : decode cX7_addClause 12 = .ok (.invokestatic 48, 3) := by decide +kernel
theorem dX7_addClause_15 : decode cX7_addClause 15 = .ok (.ifCond .ne 5, 3) := by decide +kernel
theorem dX7_addClause_18 : decode cX7_addClause 18 = .ok (.iconst (-1), 1) := by decide +kernel
theorem dX7_addClause_19 : decode cX7_addClause 19 = .ok (.ireturn, 1) := by decide +kernel
theorem dX7_addClause_20 : decode cX7_addClause 20 = .ok (.aload_n 0, 1) := by decide +kernel
theorem dX7_addClause_21 : decode cX7_addClause 21 = .ok (.getfield 10, 3) := by decide +kernel
theorem dX7_addClause_24 : decode cX7_addClause 24 = .ok (.getfield 52, 3) := by decide +kernel
theorem dX7_addClause_27 : decode cX7_addClause 27 = .ok (.getfield 56, 3) := by decide +kernel
theorem dX7_addClause_30 : decode cX7_addClause 30 = .ok (.ifCond .gt 18, 3) := by decide +kernel
theorem dX7_addClause_33 : decode cX7_addClause 33 = .ok (.aload_n 0, 1) := by decide +kernel
theorem dX7_addClause_34 : decode cX7_addClause 34 = .ok (.getfield 10, 3) := by decide +kernel
theorem dX7_addClause_37 : decode cX7_addClause 37 = .ok (.getfield 61, 3) := by decide +kernel
theorem dX7_addClause_40 : decode cX7_addClause 40 = .ok (.iload_n 1, 1) := by decide +kernel
theorem dX7_addClause_41 : decode cX7_addClause 41 = .ok (.invokevirtual 65, 3) := by decide +kernel
theorem dX7_addClause_44 : decode cX7_addClause 44 = .ok (.iconst (-1), 1) := by decide +kernel
theorem dX7_addClause_45 : decode cX7_addClause 45 = .ok (.if_icmp .eq 6, 3) := by decide +kernel
theorem dX7_addClause_48 : decode cX7_addClause 48 = .ok (.bipush (-2), 2) := by decide +kernel
theorem dX7_addClause_50 : decode cX7_addClause 50 = .ok (.ireturn, 1) := by decide +kernel
theorem dX7_addClause_51 : decode cX7_addClause 51 = .ok (.aload_n 0, 1) := by decide +kernel
theorem dX7_addClause_52 : decode cX7_addClause 52 = .ok (.getfield 10, 3) := by decide +kernel
theorem dX7_addClause_55 : decode cX7_addClause 55 = .ok (.getfield 61, 3) := by decide +kernel
theorem dX7_addClause_58 : decode cX7_addClause 58 = .ok (.getfield 70, 3) := by decide +kernel
theorem dX7_addClause_61 : decode cX7_addClause 61 = .ok (.bipush 20, 2) := by decide +kernel
theorem dX7_addClause_63 : decode cX7_addClause 63 = .ok (.if_icmp .lt 6, 3) := by decide +kernel
theorem dX7_addClause_66 : decode cX7_addClause 66 = .ok (.bipush (-3), 2) := by decide +kernel
theorem dX7_addClause_68 : decode cX7_addClause 68 = .ok (.ireturn, 1) := by decide +kernel
theorem dX7_addClause_69 : decode cX7_addClause 69 = .ok (.aload_n 0, 1) := by decide +kernel
theorem dX7_addClause_70 : decode cX7_addClause 70 = .ok (.getfield 19, 3) := by decide +kernel
theorem dX7_addClause_73 : decode cX7_addClause 73 = .ok (.aload_n 0, 1) := by decide +kernel
theorem dX7_addClause_74 : decode cX7_addClause 74 = .ok (.getfield 10, 3) := by decide +kernel
theorem dX7_addClause_77 : decode cX7_addClause 77 = .ok (.invokevirtual 40, 3) := by decide +kernel
theorem dX7_addClause_80 : decode cX7_addClause 80 = .ok (.aload_n 0, 1) := by decide +kernel
theorem dX7_addClause_81 : decode cX7_addClause 81 = .ok (.getfield 10, 3) := by decide +kernel
theorem dX7_addClause_84 : decode cX7_addClause 84 = .ok (.getfield 61, 3) := by decide +kernel
theorem dX7_addClause_87 : decode cX7_addClause 87 = .ok (.iload_n 1, 1) := by decide +kernel
theorem dX7_addClause_88 : decode cX7_addClause 88 = .ok (.iload_n 2, 1) := by decide +kernel
theorem dX7_addClause_89 : decode cX7_addClause 89 = .ok (.invokevirtual 71, 3) := by decide +kernel
theorem dX7_addClause_92 : decode cX7_addClause 92 = .ok (.aload_n 0, 1) := by decide +kernel
theorem dX7_addClause_93 : decode cX7_addClause 93 = .ok (.getfield 10, 3) := by decide +kernel
theorem dX7_addClause_96 : decode cX7_addClause 96 = .ok (.getfield 61, 3) := by decide +kernel
theorem dX7_addClause_99 : decode cX7_addClause 99 = .ok (.getfield 70, 3) := by decide +kernel
theorem dX7_addClause_102 : decode cX7_addClause 102 = .ok (.ireturn, 1) := by decide +kernel
theorem dX7_set_0 : decode cX7_set 0 = .ok (.iload_n 1, 1) := by decide +kernel
theorem dX7_set_1 : decode cX7_set 1 = .ok (.ifCond .lt 8, 3) := by decide +kernel
theorem dX7_set_4 : decode cX7_set 4 = .ok (.iload_n 1, 1) := by decide +kernel
theorem dX7_set_5 : decode cX7_set 5 = .ok (.iconst 5, 1) := by decide +kernel
theorem dX7_set_6 : decode cX7_set 6 = .ok (.if_icmp .lt 5, 3) := by decide +kernel
theorem dX7_set_9 : decode cX7_set 9 = .ok (.iconst (-1), 1) := by decide +kernel
theorem dX7_set_10 : decode cX7_set 10 = .ok (.ireturn, 1) := by decide +kernel
theorem dX7_set_11 : decode cX7_set 11 = .ok (.iload_n 2, 1) := by decide +kernel
theorem dX7_set_12 : decode cX7_set 12 = .ok (.getstatic 75, 3) := by decide +kernel
theorem dX7_set_15 : decode cX7_set 15 = .ok (.iload_n 1, 1) := by decide +kernel
theorem dX7_set_16 : decode cX7_set 16 = .ok (.iaload, 1) := by decide +kernel
theorem dX7_set_17 : decode cX7_set 17 = .ok (.if_icmp .lt 12, 3) := by decide +kernel
theorem dX7_set_20 : decode cX7_set 20 = .ok (.iload_n 2, 1) := by decide +kernel
theorem dX7_set_21 : decode cX7_set 21 = .ok (.getstatic 79, 3) := by decide +kernel
theorem dX7_set_24 : decode cX7_set 24 = .ok (.iload_n 1, 1) := by decide +kernel
theorem dX7_set_25 : decode cX7_set 25 = .ok (.iaload, 1) := by decide +kernel
theorem dX7_set_26 : decode cX7_set 26 = .ok (.if_icmp .le 5, 3) := by decide +kernel
theorem dX7_set_29 : decode cX7_set 29 = .ok (.iconst (-1), 1) := by decide +kernel
theorem dX7_set_30 : decode cX7_set 30 = .ok (.ireturn, 1) := by decide +kernel
theorem dX7_set_31 : decode cX7_set 31 = .ok (.aload_n 0, 1) := by decide +kernel
theorem dX7_set_32 : decode cX7_set 32 = .ok (.getfield 19, 3) := by decide +kernel
theorem dX7_set_35 : decode cX7_set 35 = .ok (.aload_n 0, 1) := by decide +kernel
theorem dX7_set_36 : decode cX7_set 36 = .ok (.getfield 10, 3) := by decide +kernel
theorem dX7_set_39 : decode cX7_set 39 = .ok (.invokevirtual 40, 3) := by decide +kernel
theorem dX7_set_42 : decode cX7_set 42 = .ok (.aload_n 0, 1) := by decide +kernel
theorem dX7_set_43 : decode cX7_set 43 = .ok (.getfield 10, 3) := by decide +kernel
theorem dX7_set_46 : decode cX7_set 46 = .ok (.getfield 82, 3) := by decide +kernel
theorem dX7_set_49 : decode cX7_set 49 = .ok (.iload_n 1, 1) := by decide +kernel
theorem dX7_set_50 : decode cX7_set 50 = .ok (.iaload, 1) := by decide +kernel
theorem dX7_set_51 : decode cX7_set 51 = .ok (.istore_n 3, 1) := by decide +kernel
theorem dX7_set_52 : decode cX7_set 52 = .ok (.aload_n 0, 1) := by decide +kernel
theorem dX7_set_53 : decode cX7_set 53 = .ok (.getfield 10, 3) := by decide +kernel
theorem dX7_set_56 : decode cX7_set 56 = .ok (.getfield 82, 3) := by decide +kernel
theorem dX7_set_59 : decode cX7_set 59 = .ok (.iload_n 1, 1) := by decide +kernel
theorem dX7_set_60 : decode cX7_set 60 = .ok (.iload_n 2, 1) := by decide +kernel
theorem dX7_set_61 : decode cX7_set 61 = .ok (.iastore, 1) := by decide +kernel
theorem dX7_set_62 : decode cX7_set 62 = .ok (.iload_n 3, 1) := by decide +kernel
theorem dX7_set_63 : decode cX7_set 63 = .ok (.ireturn, 1) := by decide +kernel
theorem dX7_member_0 : decode cX7_member 0 = .ok (.aload_n 0, 1) := by decide +kernel
theorem dX7_member_1 : decode cX7_member 1 = .ok (.getfield 10, 3) := by decide +kernel
theorem dX7_member_4 : decode cX7_member 4 = .ok (.getfield 30, 3) := by decide +kernel
theorem dX7_member_7 : decode cX7_member 7 = .ok (.iload_n 1, 1) := by decide +kernel
theorem dX7_member_8 : decode cX7_member 8 = .ok (.invokevirtual 85, 3) := by decide +kernel
theorem dX7_member_11 : decode cX7_member 11 = .ok (.ifCond .ne 5, 3) := by decide +kernel
theorem dX7_member_14 : decode cX7_member 14 = .ok (.iconst (-1), 1) := by decide +kernel
theorem dX7_member_15 : decode cX7_member 15 = .ok (.ireturn, 1) := by decide +kernel
theorem dX7_member_16 : decode cX7_member 16 = .ok (.iload_n 2, 1) := by decide +kernel
theorem dX7_member_17 : decode cX7_member 17 = .ok (.tableswitch 139 0 5 #[39, 52, 65, 82, 114, 126], 39) := by decide +kernel
theorem dX7_member_56 : decode cX7_member 56 = .ok (.aload_n 0, 1) := by decide +kernel
theorem dX7_member_57 : decode cX7_member 57 = .ok (.getfield 10, 3) := by decide +kernel
theorem dX7_member_60 : decode cX7_member 60 = .ok (.getfield 30, 3) := by decide +kernel
theorem dX7_member_63 : decode cX7_member 63 = .ok (.getfield 88, 3) := by decide +kernel
theorem dX7_member_66 : decode cX7_member 66 = .ok (.iload_n 1, 1) := by decide +kernel
theorem dX7_member_67 : decode cX7_member 67 = .ok (.iaload, 1) := by decide +kernel
theorem dX7_member_68 : decode cX7_member 68 = .ok (.ireturn, 1) := by decide +kernel
theorem dX7_member_69 : decode cX7_member 69 = .ok (.aload_n 0, 1) := by decide +kernel
theorem dX7_member_70 : decode cX7_member 70 = .ok (.getfield 10, 3) := by decide +kernel
theorem dX7_member_73 : decode cX7_member 73 = .ok (.getfield 30, 3) := by decide +kernel
theorem dX7_member_76 : decode cX7_member 76 = .ok (.getfield 91, 3) := by decide +kernel
theorem dX7_member_79 : decode cX7_member 79 = .ok (.iload_n 1, 1) := by decide +kernel
theorem dX7_member_80 : decode cX7_member 80 = .ok (.iaload, 1) := by decide +kernel
theorem dX7_member_81 : decode cX7_member 81 = .ok (.ireturn, 1) := by decide +kernel
theorem dX7_member_82 : decode cX7_member 82 = .ok (.aload_n 0, 1) := by decide +kernel
theorem dX7_member_83 : decode cX7_member 83 = .ok (.getfield 10, 3) := by decide +kernel
theorem dX7_member_86 : decode cX7_member 86 = .ok (.iload_n 1, 1) := by decide +kernel
theorem dX7_member_87 : decode cX7_member 87 = .ok (.invokevirtual 94, 3) := by decide +kernel
theorem dX7_member_90 : decode cX7_member 90 = .ok (.ifCond .eq 7, 3) := by decide +kernel
theorem dX7_member_93 : decode cX7_member 93 = .ok (.iconst 1, 1) := by decide +kernel
theorem dX7_member_94 : decode cX7_member 94 = .ok (.goto 4, 3) := by decide +kernel
theorem dX7_member_97 : decode cX7_member 97 = .ok (.iconst 0, 1) := by decide +kernel
theorem dX7_member_98 : decode cX7_member 98 = .ok (.ireturn, 1) := by decide +kernel
theorem dX7_member_99 : decode cX7_member 99 = .ok (.aload_n 0, 1) := by decide +kernel
theorem dX7_member_100 : decode cX7_member 100 = .ok (.getfield 10, 3) := by decide +kernel
theorem dX7_member_103 : decode cX7_member 103 = .ok (.getfield 30, 3) := by decide +kernel
theorem dX7_member_106 : decode cX7_member 106 = .ok (.iload_n 1, 1) := by decide +kernel
theorem dX7_member_107 : decode cX7_member 107 = .ok (.invokevirtual 97, 3) := by decide +kernel
theorem dX7_member_110 : decode cX7_member 110 = .ok (.ifCond .eq 18, 3) := by decide +kernel
theorem dX7_member_113 : decode cX7_member 113 = .ok (.aload_n 0, 1) := by decide +kernel
theorem dX7_member_114 : decode cX7_member 114 = .ok (.getfield 10, 3) := by decide +kernel
theorem dX7_member_117 : decode cX7_member 117 = .ok (.getfield 30, 3) := by decide +kernel
theorem dX7_member_120 : decode cX7_member 120 = .ok (.getfield 100, 3) := by decide +kernel
theorem dX7_member_123 : decode cX7_member 123 = .ok (.iload_n 1, 1) := by decide +kernel
theorem dX7_member_124 : decode cX7_member 124 = .ok (.iaload, 1) := by decide +kernel
theorem dX7_member_125 : decode cX7_member 125 = .ok (.goto 5, 3) := by decide +kernel
theorem dX7_member_128 : decode cX7_member 128 = .ok (.bipush (-4), 2) := by decide +kernel
theorem dX7_member_130 : decode cX7_member 130 = .ok (.ireturn, 1) := by decide +kernel
theorem dX7_member_131 : decode cX7_member 131 = .ok (.aload_n 0, 1) := by decide +kernel
theorem dX7_member_132 : decode cX7_member 132 = .ok (.getfield 10, 3) := by decide +kernel
theorem dX7_member_135 : decode cX7_member 135 = .ok (.getfield 103, 3) := by decide +kernel
theorem dX7_member_138 : decode cX7_member 138 = .ok (.iload_n 1, 1) := by decide +kernel
theorem dX7_member_139 : decode cX7_member 139 = .ok (.invokevirtual 107, 3) := by decide +kernel
theorem dX7_member_142 : decode cX7_member 142 = .ok (.ireturn, 1) := by decide +kernel
theorem dX7_member_143 : decode cX7_member 143 = .ok (.aload_n 0, 1) := by decide +kernel
theorem dX7_member_144 : decode cX7_member 144 = .ok (.getfield 10, 3) := by decide +kernel
theorem dX7_member_147 : decode cX7_member 147 = .ok (.getfield 30, 3) := by decide +kernel
theorem dX7_member_150 : decode cX7_member 150 = .ok (.getfield 112, 3) := by decide +kernel
theorem dX7_member_153 : decode cX7_member 153 = .ok (.iload_n 1, 1) := by decide +kernel
theorem dX7_member_154 : decode cX7_member 154 = .ok (.iaload, 1) := by decide +kernel
theorem dX7_member_155 : decode cX7_member 155 = .ok (.ireturn, 1) := by decide +kernel
theorem dX7_member_156 : decode cX7_member 156 = .ok (.iconst (-1), 1) := by decide +kernel
theorem dX7_member_157 : decode cX7_member 157 = .ok (.ireturn, 1) := by decide +kernel
theorem dX7_value_0 : decode cX7_value 0 = .ok (.aload_n 0, 1) := by decide +kernel
theorem dX7_value_1 : decode cX7_value 1 = .ok (.getfield 10, 3) := by decide +kernel
theorem dX7_value_4 : decode cX7_value 4 = .ok (.getfield 61, 3) := by decide +kernel
theorem dX7_value_7 : decode cX7_value 7 = .ok (.iload_n 1, 1) := by decide +kernel
theorem dX7_value_8 : decode cX7_value 8 = .ok (.invokevirtual 65, 3) := by decide +kernel
theorem dX7_value_11 : decode cX7_value 11 = .ok (.istore_n 2, 1) := by decide +kernel
theorem dX7_value_12 : decode cX7_value 12 = .ok (.iload_n 2, 1) := by decide +kernel
theorem dX7_value_13 : decode cX7_value 13 = .ok (.iconst (-1), 1) := by decide +kernel
theorem dX7_value_14 : decode cX7_value 14 = .ok (.if_icmp .ne 7, 3) := by decide +kernel
theorem dX7_value_17 : decode cX7_value 17 = .ok (.iconst (-1), 1) := by decide +kernel
theorem dX7_value_18 : decode cX7_value 18 = .ok (.goto 15, 3) := by decide +kernel
theorem dX7_value_21 : decode cX7_value 21 = .ok (.aload_n 0, 1) := by decide +kernel
theorem dX7_value_22 : decode cX7_value 22 = .ok (.getfield 10, 3) := by decide +kernel
theorem dX7_value_25 : decode cX7_value 25 = .ok (.getfield 61, 3) := by decide +kernel
theorem dX7_value_28 : decode cX7_value 28 = .ok (.getfield 115, 3) := by decide +kernel
theorem dX7_value_31 : decode cX7_value 31 = .ok (.iload_n 2, 1) := by decide +kernel
theorem dX7_value_32 : decode cX7_value 32 = .ok (.iaload, 1) := by decide +kernel
theorem dX7_value_33 : decode cX7_value 33 = .ok (.ireturn, 1) := by decide +kernel
theorem dX7_valueIn_0 : decode cX7_valueIn 0 = .ok (.aload_n 0, 1) := by decide +kernel
theorem dX7_valueIn_1 : decode cX7_valueIn 1 = .ok (.getfield 10, 3) := by decide +kernel
theorem dX7_valueIn_4 : decode cX7_valueIn 4 = .ok (.getfield 61, 3) := by decide +kernel
theorem dX7_valueIn_7 : decode cX7_valueIn 7 = .ok (.iload_n 1, 1) := by decide +kernel
theorem dX7_valueIn_8 : decode cX7_valueIn 8 = .ok (.invokevirtual 65, 3) := by decide +kernel
theorem dX7_valueIn_11 : decode cX7_valueIn 11 = .ok (.istore_n 3, 1) := by decide +kernel
theorem dX7_valueIn_12 : decode cX7_valueIn 12 = .ok (.iload_n 3, 1) := by decide +kernel
theorem dX7_valueIn_13 : decode cX7_valueIn 13 = .ok (.iconst (-1), 1) := by decide +kernel
theorem dX7_valueIn_14 : decode cX7_valueIn 14 = .ok (.if_icmp .eq 17, 3) := by decide +kernel
theorem dX7_valueIn_17 : decode cX7_valueIn 17 = .ok (.aload_n 0, 1) := by decide +kernel
theorem dX7_valueIn_18 : decode cX7_valueIn 18 = .ok (.getfield 10, 3) := by decide +kernel
theorem dX7_valueIn_21 : decode cX7_valueIn 21 = .ok (.getfield 61, 3) := by decide +kernel
theorem dX7_valueIn_24 : decode cX7_valueIn 24 = .ok (.iload_n 2, 1) := by decide +kernel
theorem dX7_valueIn_25 : decode cX7_valueIn 25 = .ok (.invokevirtual 118, 3) := by decide +kernel
theorem dX7_valueIn_28 : decode cX7_valueIn 28 = .ok (.ifCond .ne 5, 3) := by decide +kernel
theorem dX7_valueIn_31 : decode cX7_valueIn 31 = .ok (.iconst (-1), 1) := by decide +kernel
theorem dX7_valueIn_32 : decode cX7_valueIn 32 = .ok (.ireturn, 1) := by decide +kernel
theorem dX7_valueIn_33 : decode cX7_valueIn 33 = .ok (.aload_n 0, 1) := by decide +kernel
theorem dX7_valueIn_34 : decode cX7_valueIn 34 = .ok (.getfield 10, 3) := by decide +kernel
theorem dX7_valueIn_37 : decode cX7_valueIn 37 = .ok (.getfield 61, 3) := by decide +kernel
theorem dX7_valueIn_40 : decode cX7_valueIn 40 = .ok (.getfield 121, 3) := by decide +kernel
theorem dX7_valueIn_43 : decode cX7_valueIn 43 = .ok (.iload_n 2, 1) := by decide +kernel
theorem dX7_valueIn_44 : decode cX7_valueIn 44 = .ok (.iload_n 3, 1) := by decide +kernel
theorem dX7_valueIn_45 : decode cX7_valueIn 45 = .ok (.invokestatic 124, 3) := by decide +kernel
theorem dX7_valueIn_48 : decode cX7_valueIn 48 = .ok (.iaload, 1) := by decide +kernel
theorem dX7_valueIn_49 : decode cX7_valueIn 49 = .ok (.ireturn, 1) := by decide +kernel
theorem dX7_clause_0 : decode cX7_clause 0 = .ok (.iload_n 1, 1) := by decide +kernel
theorem dX7_clause_1 : decode cX7_clause 1 = .ok (.ifCond .ge 5, 3) := by decide +kernel
theorem dX7_clause_4 : decode cX7_clause 4 = .ok (.iconst (-1), 1) := by decide +kernel
theorem dX7_clause_5 : decode cX7_clause 5 = .ok (.ireturn, 1) := by decide +kernel
theorem dX7_clause_6 : decode cX7_clause 6 = .ok (.iload_n 1, 1) := by decide +kernel
theorem dX7_clause_7 : decode cX7_clause 7 = .ok (.aload_n 0, 1) := by decide +kernel
theorem dX7_clause_8 : decode cX7_clause 8 = .ok (.getfield 10, 3) := by decide +kernel
theorem dX7_clause_11 : decode cX7_clause 11 = .ok (.getfield 61, 3) := by decide +kernel
theorem dX7_clause_14 : decode cX7_clause 14 = .ok (.getfield 70, 3) := by decide +kernel
theorem dX7_clause_17 : decode cX7_clause 17 = .ok (.if_icmp .ge 18, 3) := by decide +kernel
theorem dX7_clause_20 : decode cX7_clause 20 = .ok (.aload_n 0, 1) := by decide +kernel
theorem dX7_clause_21 : decode cX7_clause 21 = .ok (.getfield 10, 3) := by decide +kernel
theorem dX7_clause_24 : decode cX7_clause 24 = .ok (.getfield 61, 3) := by decide +kernel
theorem dX7_clause_27 : decode cX7_clause 27 = .ok (.getfield 128, 3) := by decide +kernel
theorem dX7_clause_30 : decode cX7_clause 30 = .ok (.iload_n 1, 1) := by decide +kernel
theorem dX7_clause_31 : decode cX7_clause 31 = .ok (.iaload, 1) := by decide +kernel
theorem dX7_clause_32 : decode cX7_clause 32 = .ok (.goto 5, 3) := by decide +kernel
theorem dX7_clause_35 : decode cX7_clause 35 = .ok (.bipush (-4), 2) := by decide +kernel
theorem dX7_clause_37 : decode cX7_clause 37 = .ok (.ireturn, 1) := by decide +kernel
theorem dX7_count_0 : decode cX7_count 0 = .ok (.iload_n 1, 1) := by decide +kernel
theorem dX7_count_1 : decode cX7_count 1 = .ok (.bipush 20, 2) := by decide +kernel
theorem dX7_count_3 : decode cX7_count 3 = .ok (.if_icmp .lt 22, 3) := by decide +kernel
theorem dX7_count_6 : decode cX7_count 6 = .ok (.iload_n 1, 1) := by decide +kernel
theorem dX7_count_7 : decode cX7_count 7 = .ok (.bipush 25, 2) := by decide +kernel
theorem dX7_count_9 : decode cX7_count 9 = .ok (.if_icmp .ge 16, 3) := by decide +kernel
theorem dX7_count_12 : decode cX7_count 12 = .ok (.aload_n 0, 1) := by decide +kernel
theorem dX7_count_13 : decode cX7_count 13 = .ok (.getfield 10, 3) := by decide +kernel
theorem dX7_count_16 : decode cX7_count 16 = .ok (.getfield 82, 3) := by decide +kernel
theorem dX7_count_19 : decode cX7_count 19 = .ok (.iload_n 1, 1) := by decide +kernel
theorem dX7_count_20 : decode cX7_count 20 = .ok (.bipush 20, 2) := by decide +kernel
theorem dX7_count_22 : decode cX7_count 22 = .ok (.isub, 1) := by decide +kernel
theorem dX7_count_23 : decode cX7_count 23 = .ok (.iaload, 1) := by decide +kernel
theorem dX7_count_24 : decode cX7_count 24 = .ok (.ireturn, 1) := by decide +kernel
theorem dX7_count_25 : decode cX7_count 25 = .ok (.iload_n 1, 1) := by decide +kernel
theorem dX7_count_26 : decode cX7_count 26 = .ok (.tableswitch 215 0 11 #[62, 73, 84, 95, 103, 122, 133, 144, 155, 163, 171, 179], 62) := by decide +kernel
theorem dX7_count_88 : decode cX7_count 88 = .ok (.aload_n 0, 1) := by decide +kernel
theorem dX7_count_89 : decode cX7_count 89 = .ok (.getfield 10, 3) := by decide +kernel
theorem dX7_count_92 : decode cX7_count 92 = .ok (.getfield 30, 3) := by decide +kernel
theorem dX7_count_95 : decode cX7_count 95 = .ok (.getfield 34, 3) := by decide +kernel
theorem dX7_count_98 : decode cX7_count 98 = .ok (.ireturn, 1) := by decide +kernel
theorem dX7_count_99 : decode cX7_count 99 = .ok (.aload_n 0, 1) := by decide +kernel
theorem dX7_count_100 : decode cX7_count 100 = .ok (.getfield 10, 3) := by decide +kernel
theorem dX7_count_103 : decode cX7_count 103 = .ok (.getfield 61, 3) := by decide +kernel
theorem dX7_count_106 : decode cX7_count 106 = .ok (.getfield 70, 3) := by decide +kernel
theorem dX7_count_109 : decode cX7_count 109 = .ok (.ireturn, 1) := by decide +kernel
theorem dX7_count_110 : decode cX7_count 110 = .ok (.aload_n 0, 1) := by decide +kernel
theorem dX7_count_111 : decode cX7_count 111 = .ok (.getfield 10, 3) := by decide +kernel
theorem dX7_count_114 : decode cX7_count 114 = .ok (.getfield 61, 3) := by decide +kernel
theorem dX7_count_117 : decode cX7_count 117 = .ok (.getfield 130, 3) := by decide +kernel
theorem dX7_count_120 : decode cX7_count 120 = .ok (.ireturn, 1) := by decide +kernel
theorem dX7_count_121 : decode cX7_count 121 = .ok (.aload_n 0, 1) := by decide +kernel
theorem dX7_count_122 : decode cX7_count 122 = .ok (.getfield 10, 3) := by decide +kernel
theorem dX7_count_125 : decode cX7_count 125 = .ok (.getfield 133, 3) := by decide +kernel
theorem dX7_count_128 : decode cX7_count 128 = .ok (.ireturn, 1) := by decide +kernel
theorem dX7_count_129 : decode cX7_count 129 = .ok (.aload_n 0, 1) := by decide +kernel
theorem dX7_count_130 : decode cX7_count 130 = .ok (.getfield 10, 3) := by decide +kernel
theorem dX7_count_133 : decode cX7_count 133 = .ok (.getfield 52, 3) := by decide +kernel
theorem dX7_count_136 : decode cX7_count 136 = .ok (.getfield 136, 3) := by decide +kernel
theorem dX7_count_139 : decode cX7_count 139 = .ok (.ifCond .eq 7, 3) := by decide +kernel
theorem dX7_count_142 : decode cX7_count 142 = .ok (.iconst 1, 1) := by decide +kernel
theorem dX7_count_143 : decode cX7_count 143 = .ok (.goto 4, 3) := by decide +kernel
theorem dX7_count_146 : decode cX7_count 146 = .ok (.iconst 0, 1) := by decide +kernel
theorem dX7_count_147 : decode cX7_count 147 = .ok (.ireturn, 1) := by decide +kernel
theorem dX7_count_148 : decode cX7_count 148 = .ok (.aload_n 0, 1) := by decide +kernel
theorem dX7_count_149 : decode cX7_count 149 = .ok (.getfield 10, 3) := by decide +kernel
theorem dX7_count_152 : decode cX7_count 152 = .ok (.getfield 52, 3) := by decide +kernel
theorem dX7_count_155 : decode cX7_count 155 = .ok (.getfield 56, 3) := by decide +kernel
theorem dX7_count_158 : decode cX7_count 158 = .ok (.ireturn, 1) := by decide +kernel
theorem dX7_count_159 : decode cX7_count 159 = .ok (.aload_n 0, 1) := by decide +kernel
theorem dX7_count_160 : decode cX7_count 160 = .ok (.getfield 10, 3) := by decide +kernel
theorem dX7_count_163 : decode cX7_count 163 = .ok (.getfield 103, 3) := by decide +kernel
theorem dX7_count_166 : decode cX7_count 166 = .ok (.getfield 140, 3) := by decide +kernel
theorem dX7_count_169 : decode cX7_count 169 = .ok (.ireturn, 1) := by decide +kernel
theorem dX7_count_170 : decode cX7_count 170 = .ok (.aload_n 0, 1) := by decide +kernel
theorem dX7_count_171 : decode cX7_count 171 = .ok (.getfield 10, 3) := by decide +kernel
theorem dX7_count_174 : decode cX7_count 174 = .ok (.getfield 103, 3) := by decide +kernel
theorem dX7_count_177 : decode cX7_count 177 = .ok (.invokevirtual 141, 3) := by decide +kernel
theorem dX7_count_180 : decode cX7_count 180 = .ok (.ireturn, 1) := by decide +kernel
theorem dX7_count_181 : decode cX7_count 181 = .ok (.aload_n 0, 1) := by decide +kernel
theorem dX7_count_182 : decode cX7_count 182 = .ok (.getfield 10, 3) := by decide +kernel
theorem dX7_count_185 : decode cX7_count 185 = .ok (.invokevirtual 145, 3) := by decide +kernel
theorem dX7_count_188 : decode cX7_count 188 = .ok (.ireturn, 1) := by decide +kernel
theorem dX7_count_189 : decode cX7_count 189 = .ok (.aload_n 0, 1) := by decide +kernel
theorem dX7_count_190 : decode cX7_count 190 = .ok (.getfield 19, 3) := by decide +kernel
theorem dX7_count_193 : decode cX7_count 193 = .ok (.getfield 148, 3) := by decide +kernel
theorem dX7_count_196 : decode cX7_count 196 = .ok (.ireturn, 1) := by decide +kernel
theorem dX7_count_197 : decode cX7_count 197 = .ok (.aload_n 0, 1) := by decide +kernel
theorem dX7_count_198 : decode cX7_count 198 = .ok (.getfield 26, 3) := by decide +kernel
theorem dX7_count_201 : decode cX7_count 201 = .ok (.getfield 149, 3) := by decide +kernel
theorem dX7_count_204 : decode cX7_count 204 = .ok (.ireturn, 1) := by decide +kernel
theorem dX7_count_205 : decode cX7_count 205 = .ok (.aload_n 0, 1) := by decide +kernel
theorem dX7_count_206 : decode cX7_count 206 = .ok (.getfield 10, 3) := by decide +kernel
theorem dX7_count_209 : decode cX7_count 209 = .ok (.getfield 52, 3) := by decide +kernel
theorem dX7_count_212 : decode cX7_count 212 = .ok (.getfield 136, 3) := by decide +kernel
theorem dX7_count_215 : decode cX7_count 215 = .ok (.ifCond .eq 24, 3) := by decide +kernel
theorem dX7_count_218 : decode cX7_count 218 = .ok (.aload_n 0, 1) := by decide +kernel
theorem dX7_count_219 : decode cX7_count 219 = .ok (.getfield 10, 3) := by decide +kernel
theorem dX7_count_222 : decode cX7_count 222 = .ok (.getfield 52, 3) := by decide +kernel
theorem dX7_count_225 : decode cX7_count 225 = .ok (.getfield 152, 3) := by decide +kernel
theorem dX7_count_228 : decode cX7_count 228 = .ok (.aload_n 0, 1) := by decide +kernel
theorem dX7_count_229 : decode cX7_count 229 = .ok (.getfield 10, 3) := by decide +kernel
theorem dX7_count_232 : decode cX7_count 232 = .ok (.getfield 133, 3) := by decide +kernel
theorem dX7_count_235 : decode cX7_count 235 = .ok (.isub, 1) := by decide +kernel
theorem dX7_count_236 : decode cX7_count 236 = .ok (.goto 4, 3) := by decide +kernel
theorem dX7_count_239 : decode cX7_count 239 = .ok (.iconst 0, 1) := by decide +kernel
theorem dX7_count_240 : decode cX7_count 240 = .ok (.ireturn, 1) := by decide +kernel
theorem dX7_count_241 : decode cX7_count 241 = .ok (.iconst (-1), 1) := by decide +kernel
theorem dX7_count_242 : decode cX7_count 242 = .ok (.ireturn, 1) := by decide +kernel
theorem dX7_open_0 : decode cX7_open 0 = .ok (.aload_n 0, 1) := by decide +kernel
theorem dX7_open_1 : decode cX7_open 1 = .ok (.getfield 10, 3) := by decide +kernel
theorem dX7_open_4 : decode cX7_open 4 = .ok (.getfield 52, 3) := by decide +kernel
theorem dX7_open_7 : decode cX7_open 7 = .ok (.getfield 136, 3) := by decide +kernel
theorem dX7_open_10 : decode cX7_open 10 = .ok (.ifCond .ne 29, 3) := by decide +kernel
theorem dX7_open_13 : decode cX7_open 13 = .ok (.aload_n 0, 1) := by decide +kernel
theorem dX7_open_14 : decode cX7_open 14 = .ok (.getfield 10, 3) := by decide +kernel
theorem dX7_open_17 : decode cX7_open 17 = .ok (.getfield 103, 3) := by decide +kernel
theorem dX7_open_20 : decode cX7_open 20 = .ok (.invokevirtual 141, 3) := by decide +kernel
theorem dX7_open_23 : decode cX7_open 23 = .ok (.ifCond .gt 16, 3) := by decide +kernel
theorem dX7_open_26 : decode cX7_open 26 = .ok (.aload_n 0, 1) := by decide +kernel
theorem dX7_open_27 : decode cX7_open 27 = .ok (.getfield 10, 3) := by decide +kernel
theorem dX7_open_30 : decode cX7_open 30 = .ok (.getfield 61, 3) := by decide +kernel
theorem dX7_open_33 : decode cX7_open 33 = .ok (.getfield 70, 3) := by decide +kernel
theorem dX7_open_36 : decode cX7_open 36 = .ok (.ifCond .ne 6, 3) := by decide +kernel
theorem dX7_open_39 : decode cX7_open 39 = .ok (.bipush (-2), 2) := by decide +kernel
theorem dX7_open_41 : decode cX7_open 41 = .ok (.ireturn, 1) := by decide +kernel
theorem dX7_open_42 : decode cX7_open 42 = .ok (.aload_n 0, 1) := by decide +kernel
theorem dX7_open_43 : decode cX7_open 43 = .ok (.getfield 10, 3) := by decide +kernel
theorem dX7_open_46 : decode cX7_open 46 = .ok (.getfield 61, 3) := by decide +kernel
theorem dX7_open_49 : decode cX7_open 49 = .ok (.getfield 130, 3) := by decide +kernel
theorem dX7_open_52 : decode cX7_open 52 = .ok (.bipush 12, 2) := by decide +kernel
theorem dX7_open_54 : decode cX7_open 54 = .ok (.if_icmp .lt 6, 3) := by decide +kernel
theorem dX7_open_57 : decode cX7_open 57 = .ok (.bipush (-3), 2) := by decide +kernel
theorem dX7_open_59 : decode cX7_open 59 = .ok (.ireturn, 1) := by decide +kernel
theorem dX7_open_60 : decode cX7_open 60 = .ok (.aload_n 0, 1) := by decide +kernel
theorem dX7_open_61 : decode cX7_open 61 = .ok (.getfield 19, 3) := by decide +kernel
theorem dX7_open_64 : decode cX7_open 64 = .ok (.aload_n 0, 1) := by decide +kernel
theorem dX7_open_65 : decode cX7_open 65 = .ok (.getfield 10, 3) := by decide +kernel
theorem dX7_open_68 : decode cX7_open 68 = .ok (.invokevirtual 40, 3) := by decide +kernel
theorem dX7_open_71 : decode cX7_open 71 = .ok (.aload_n 0, 1) := by decide +kernel
theorem dX7_open_72 : decode cX7_open 72 = .ok (.getfield 10, 3) := by decide +kernel
theorem dX7_open_75 : decode cX7_open 75 = .ok (.invokevirtual 155, 3) := by decide +kernel
theorem dX7_open_78 : decode cX7_open 78 = .ok (.aload_n 0, 1) := by decide +kernel
theorem dX7_open_79 : decode cX7_open 79 = .ok (.getfield 10, 3) := by decide +kernel
theorem dX7_open_82 : decode cX7_open 82 = .ok (.getfield 52, 3) := by decide +kernel
theorem dX7_open_85 : decode cX7_open 85 = .ok (.getfield 56, 3) := by decide +kernel
theorem dX7_open_88 : decode cX7_open 88 = .ok (.ireturn, 1) := by decide +kernel
theorem dX7_vote_0 : decode cX7_vote 0 = .ok (.aload_n 0, 1) := by decide +kernel
theorem dX7_vote_1 : decode cX7_vote 1 = .ok (.getfield 10, 3) := by decide +kernel
theorem dX7_vote_4 : decode cX7_vote 4 = .ok (.getfield 30, 3) := by decide +kernel
theorem dX7_vote_7 : decode cX7_vote 7 = .ok (.iload_n 1, 1) := by decide +kernel
theorem dX7_vote_8 : decode cX7_vote 8 = .ok (.invokevirtual 85, 3) := by decide +kernel
theorem dX7_vote_11 : decode cX7_vote 11 = .ok (.ifCond .eq 12, 3) := by decide +kernel
theorem dX7_vote_14 : decode cX7_vote 14 = .ok (.iload_n 2, 1) := by decide +kernel
theorem dX7_vote_15 : decode cX7_vote 15 = .ok (.ifCond .lt 8, 3) := by decide +kernel
theorem dX7_vote_18 : decode cX7_vote 18 = .ok (.iload_n 2, 1) := by decide +kernel
theorem dX7_vote_19 : decode cX7_vote 19 = .ok (.iconst 2, 1) := by decide +kernel
theorem dX7_vote_20 : decode cX7_vote 20 = .ok (.if_icmp .le 5, 3) := by decide +kernel
theorem dX7_vote_23 : decode cX7_vote 23 = .ok (.iconst (-1), 1) := by decide +kernel
theorem dX7_vote_24 : decode cX7_vote 24 = .ok (.ireturn, 1) := by decide +kernel
theorem dX7_vote_25 : decode cX7_vote 25 = .ok (.aload_n 0, 1) := by decide +kernel
theorem dX7_vote_26 : decode cX7_vote 26 = .ok (.getfield 10, 3) := by decide +kernel
theorem dX7_vote_29 : decode cX7_vote 29 = .ok (.getfield 52, 3) := by decide +kernel
theorem dX7_vote_32 : decode cX7_vote 32 = .ok (.getfield 136, 3) := by decide +kernel
theorem dX7_vote_35 : decode cX7_vote 35 = .ok (.ifCond .ne 6, 3) := by decide +kernel
theorem dX7_vote_38 : decode cX7_vote 38 = .ok (.bipush (-2), 2) := by decide +kernel
theorem dX7_vote_40 : decode cX7_vote 40 = .ok (.ireturn, 1) := by decide +kernel
theorem dX7_vote_41 : decode cX7_vote 41 = .ok (.aload_n 0, 1) := by decide +kernel
theorem dX7_vote_42 : decode cX7_vote 42 = .ok (.getfield 19, 3) := by decide +kernel
theorem dX7_vote_45 : decode cX7_vote 45 = .ok (.aload_n 0, 1) := by decide +kernel
theorem dX7_vote_46 : decode cX7_vote 46 = .ok (.getfield 10, 3) := by decide +kernel
theorem dX7_vote_49 : decode cX7_vote 49 = .ok (.invokevirtual 40, 3) := by decide +kernel
theorem dX7_vote_52 : decode cX7_vote 52 = .ok (.aload_n 0, 1) := by decide +kernel
theorem dX7_vote_53 : decode cX7_vote 53 = .ok (.getfield 10, 3) := by decide +kernel
theorem dX7_vote_56 : decode cX7_vote 56 = .ok (.getfield 30, 3) := by decide +kernel
theorem dX7_vote_59 : decode cX7_vote 59 = .ok (.getfield 100, 3) := by decide +kernel
theorem dX7_vote_62 : decode cX7_vote 62 = .ok (.iload_n 1, 1) := by decide +kernel
theorem dX7_vote_63 : decode cX7_vote 63 = .ok (.iload_n 2, 1) := by decide +kernel
theorem dX7_vote_64 : decode cX7_vote 64 = .ok (.iastore, 1) := by decide +kernel
theorem dX7_vote_65 : decode cX7_vote 65 = .ok (.aload_n 0, 1) := by decide +kernel
theorem dX7_vote_66 : decode cX7_vote 66 = .ok (.getfield 10, 3) := by decide +kernel
theorem dX7_vote_69 : decode cX7_vote 69 = .ok (.getfield 30, 3) := by decide +kernel
theorem dX7_vote_72 : decode cX7_vote 72 = .ok (.invokevirtual 158, 3) := by decide +kernel
theorem dX7_vote_75 : decode cX7_vote 75 = .ok (.ireturn, 1) := by decide +kernel
theorem dX7_pass_0 : decode cX7_pass 0 = .ok (.iload_n 1, 1) := by decide +kernel
theorem dX7_pass_1 : decode cX7_pass 1 = .ok (.iconst 1, 1) := by decide +kernel
theorem dX7_pass_2 : decode cX7_pass 2 = .ok (.if_icmp .lt 10, 3) := by decide +kernel
theorem dX7_pass_5 : decode cX7_pass 5 = .ok (.iload_n 1, 1) := by decide +kernel
theorem dX7_pass_6 : decode cX7_pass 6 = .ok (.sipush 365, 3) := by decide +kernel
theorem dX7_pass_9 : decode cX7_pass 9 = .ok (.if_icmp .le 5, 3) := by decide +kernel
theorem dX7_pass_12 : decode cX7_pass 12 = .ok (.iconst (-1), 1) := by decide +kernel
theorem dX7_pass_13 : decode cX7_pass 13 = .ok (.ireturn, 1) := by decide +kernel
theorem dX7_pass_14 : decode cX7_pass 14 = .ok (.aload_n 0, 1) := by decide +kernel
theorem dX7_pass_15 : decode cX7_pass 15 = .ok (.getfield 10, 3) := by decide +kernel
theorem dX7_pass_18 : decode cX7_pass 18 = .ok (.getfield 133, 3) := by decide +kernel
theorem dX7_pass_21 : decode cX7_pass 21 = .ok (.iload_n 1, 1) := by decide +kernel
theorem dX7_pass_22 : decode cX7_pass 22 = .ok (.iadd, 1) := by decide +kernel
theorem dX7_pass_23 : decode cX7_pass 23 = .ok (.sipush 10000, 3) := by decide +kernel
theorem dX7_pass_26 : decode cX7_pass 26 = .ok (.if_icmp .le 6, 3) := by decide +kernel
theorem dX7_pass_29 : decode cX7_pass 29 = .ok (.bipush (-3), 2) := by decide +kernel
theorem dX7_pass_31 : decode cX7_pass 31 = .ok (.ireturn, 1) := by decide +kernel
theorem dX7_pass_32 : decode cX7_pass 32 = .ok (.aload_n 0, 1) := by decide +kernel
theorem dX7_pass_33 : decode cX7_pass 33 = .ok (.getfield 19, 3) := by decide +kernel
theorem dX7_pass_36 : decode cX7_pass 36 = .ok (.aload_n 0, 1) := by decide +kernel
theorem dX7_pass_37 : decode cX7_pass 37 = .ok (.getfield 10, 3) := by decide +kernel
theorem dX7_pass_40 : decode cX7_pass 40 = .ok (.invokevirtual 40, 3) := by decide +kernel
theorem dX7_pass_43 : decode cX7_pass 43 = .ok (.aload_n 0, 1) := by decide +kernel
theorem dX7_pass_44 : decode cX7_pass 44 = .ok (.getfield 10, 3) := by decide +kernel
theorem dX7_pass_47 : decode cX7_pass 47 = .ok (.dup, 1) := by decide +kernel
theorem dX7_pass_48 : decode cX7_pass 48 = .ok (.getfield 133, 3) := by decide +kernel
theorem dX7_pass_51 : decode cX7_pass 51 = .ok (.iload_n 1, 1) := by decide +kernel
theorem dX7_pass_52 : decode cX7_pass 52 = .ok (.iadd, 1) := by decide +kernel
theorem dX7_pass_53 : decode cX7_pass 53 = .ok (.putfield 133, 3) := by decide +kernel
theorem dX7_pass_56 : decode cX7_pass 56 = .ok (.aload_n 0, 1) := by decide +kernel
theorem dX7_pass_57 : decode cX7_pass 57 = .ok (.getfield 10, 3) := by decide +kernel
theorem dX7_pass_60 : decode cX7_pass 60 = .ok (.getfield 52, 3) := by decide +kernel
theorem dX7_pass_63 : decode cX7_pass 63 = .ok (.getfield 136, 3) := by decide +kernel
theorem dX7_pass_66 : decode cX7_pass 66 = .ok (.ifCond .eq 23, 3) := by decide +kernel
theorem dX7_pass_69 : decode cX7_pass 69 = .ok (.aload_n 0, 1) := by decide +kernel
theorem dX7_pass_70 : decode cX7_pass 70 = .ok (.getfield 10, 3) := by decide +kernel
theorem dX7_pass_73 : decode cX7_pass 73 = .ok (.getfield 133, 3) := by decide +kernel
theorem dX7_pass_76 : decode cX7_pass 76 = .ok (.aload_n 0, 1) := by decide +kernel
theorem dX7_pass_77 : decode cX7_pass 77 = .ok (.getfield 10, 3) := by decide +kernel
theorem dX7_pass_80 : decode cX7_pass 80 = .ok (.getfield 52, 3) := by decide +kernel
theorem dX7_pass_83 : decode cX7_pass 83 = .ok (.getfield 152, 3) := by decide +kernel
theorem dX7_pass_86 : decode cX7_pass 86 = .ok (.if_icmp .ge 5, 3) := by decide +kernel
theorem dX7_pass_89 : decode cX7_pass 89 = .ok (.iconst 0, 1) := by decide +kernel
theorem dX7_pass_90 : decode cX7_pass 90 = .ok (.ireturn, 1) := by decide +kernel
theorem dX7_pass_91 : decode cX7_pass 91 = .ok (.aload_n 0, 1) := by decide +kernel
theorem dX7_pass_92 : decode cX7_pass 92 = .ok (.getfield 10, 3) := by decide +kernel
theorem dX7_pass_95 : decode cX7_pass 95 = .ok (.invokevirtual 161, 3) := by decide +kernel
theorem dX7_pass_98 : decode cX7_pass 98 = .ok (.aload_n 0, 1) := by decide +kernel
theorem dX7_pass_99 : decode cX7_pass 99 = .ok (.getfield 10, 3) := by decide +kernel
theorem dX7_pass_102 : decode cX7_pass 102 = .ok (.getfield 52, 3) := by decide +kernel
theorem dX7_pass_105 : decode cX7_pass 105 = .ok (.getfield 164, 3) := by decide +kernel
theorem dX7_pass_108 : decode cX7_pass 108 = .ok (.iconst 5, 1) := by decide +kernel
theorem dX7_pass_109 : decode cX7_pass 109 = .ok (.iaload, 1) := by decide +kernel
theorem dX7_pass_110 : decode cX7_pass 110 = .ok (.iconst 1, 1) := by decide +kernel
theorem dX7_pass_111 : decode cX7_pass 111 = .ok (.if_icmp .ne 7, 3) := by decide +kernel
theorem dX7_pass_114 : decode cX7_pass 114 = .ok (.iconst 2, 1) := by decide +kernel
theorem dX7_pass_115 : decode cX7_pass 115 = .ok (.goto 4, 3) := by decide +kernel
theorem dX7_pass_118 : decode cX7_pass 118 = .ok (.iconst 1, 1) := by decide +kernel
theorem dX7_pass_119 : decode cX7_pass 119 = .ok (.ireturn, 1) := by decide +kernel
theorem dX7_tally_0 : decode cX7_tally 0 = .ok (.iload_n 1, 1) := by decide +kernel
theorem dX7_tally_1 : decode cX7_tally 1 = .ok (.ifCond .lt 9, 3) := by decide +kernel
theorem dX7_tally_4 : decode cX7_tally 4 = .ok (.iload_n 1, 1) := by decide +kernel
theorem dX7_tally_5 : decode cX7_tally 5 = .ok (.bipush 6, 2) := by decide +kernel
theorem dX7_tally_7 : decode cX7_tally 7 = .ok (.if_icmp .lt 5, 3) := by decide +kernel
theorem dX7_tally_10 : decode cX7_tally 10 = .ok (.iconst (-1), 1) := by decide +kernel
theorem dX7_tally_11 : decode cX7_tally 11 = .ok (.ireturn, 1) := by decide +kernel
theorem dX7_tally_12 : decode cX7_tally 12 = .ok (.aload_n 0, 1) := by decide +kernel
theorem dX7_tally_13 : decode cX7_tally 13 = .ok (.getfield 10, 3) := by decide +kernel
theorem dX7_tally_16 : decode cX7_tally 16 = .ok (.getfield 52, 3) := by decide +kernel
theorem dX7_tally_19 : decode cX7_tally 19 = .ok (.getfield 56, 3) := by decide +kernel
theorem dX7_tally_22 : decode cX7_tally 22 = .ok (.ifCond .ne 6, 3) := by decide +kernel
theorem dX7_tally_25 : decode cX7_tally 25 = .ok (.bipush (-4), 2) := by decide +kernel
theorem dX7_tally_27 : decode cX7_tally 27 = .ok (.ireturn, 1) := by decide +kernel
theorem dX7_tally_28 : decode cX7_tally 28 = .ok (.aload_n 0, 1) := by decide +kernel
theorem dX7_tally_29 : decode cX7_tally 29 = .ok (.getfield 10, 3) := by decide +kernel
theorem dX7_tally_32 : decode cX7_tally 32 = .ok (.getfield 52, 3) := by decide +kernel
theorem dX7_tally_35 : decode cX7_tally 35 = .ok (.getfield 136, 3) := by decide +kernel
theorem dX7_tally_38 : decode cX7_tally 38 = .ok (.ifCond .eq 10, 3) := by decide +kernel
theorem dX7_tally_41 : decode cX7_tally 41 = .ok (.aload_n 0, 1) := by decide +kernel
theorem dX7_tally_42 : decode cX7_tally 42 = .ok (.getfield 10, 3) := by decide +kernel
theorem dX7_tally_45 : decode cX7_tally 45 = .ok (.invokevirtual 167, 3) := by decide +kernel
theorem dX7_tally_48 : decode cX7_tally 48 = .ok (.aload_n 0, 1) := by decide +kernel
theorem dX7_tally_49 : decode cX7_tally 49 = .ok (.getfield 10, 3) := by decide +kernel
theorem dX7_tally_52 : decode cX7_tally 52 = .ok (.getfield 52, 3) := by decide +kernel
theorem dX7_tally_55 : decode cX7_tally 55 = .ok (.getfield 164, 3) := by decide +kernel
theorem dX7_tally_58 : decode cX7_tally 58 = .ok (.iload_n 1, 1) := by decide +kernel
theorem dX7_tally_59 : decode cX7_tally 59 = .ok (.iaload, 1) := by decide +kernel
theorem dX7_tally_60 : decode cX7_tally 60 = .ok (.ireturn, 1) := by decide +kernel
theorem dX7_lacking_0 : decode cX7_lacking 0 = .ok (.aload_n 0, 1) := by decide +kernel
theorem dX7_lacking_1 : decode cX7_lacking 1 = .ok (.getfield 10, 3) := by decide +kernel
theorem dX7_lacking_4 : decode cX7_lacking 4 = .ok (.getfield 52, 3) := by decide +kernel
theorem dX7_lacking_7 : decode cX7_lacking 7 = .ok (.getfield 136, 3) := by decide +kernel
theorem dX7_lacking_10 : decode cX7_lacking 10 = .ok (.ifCond .ne 6, 3) := by decide +kernel
theorem dX7_lacking_13 : decode cX7_lacking 13 = .ok (.bipush (-2), 2) := by decide +kernel
theorem dX7_lacking_15 : decode cX7_lacking 15 = .ok (.ireturn, 1) := by decide +kernel
theorem dX7_lacking_16 : decode cX7_lacking 16 = .ok (.aload_n 0, 1) := by decide +kernel
theorem dX7_lacking_17 : decode cX7_lacking 17 = .ok (.getfield 10, 3) := by decide +kernel
theorem dX7_lacking_20 : decode cX7_lacking 20 = .ok (.invokevirtual 167, 3) := by decide +kernel
theorem dX7_lacking_23 : decode cX7_lacking 23 = .ok (.aload_n 0, 1) := by decide +kernel
theorem dX7_lacking_24 : decode cX7_lacking 24 = .ok (.getfield 10, 3) := by decide +kernel
theorem dX7_lacking_27 : decode cX7_lacking 27 = .ok (.getfield 52, 3) := by decide +kernel
theorem dX7_lacking_30 : decode cX7_lacking 30 = .ok (.getfield 164, 3) := by decide +kernel
theorem dX7_lacking_33 : decode cX7_lacking 33 = .ok (.astore_n 1, 1) := by decide +kernel
theorem dX7_lacking_34 : decode cX7_lacking 34 = .ok (.aload_n 0, 1) := by decide +kernel
theorem dX7_lacking_35 : decode cX7_lacking 35 = .ok (.getfield 10, 3) := by decide +kernel
theorem dX7_lacking_38 : decode cX7_lacking 38 = .ok (.getfield 82, 3) := by decide +kernel
theorem dX7_lacking_41 : decode cX7_lacking 41 = .ok (.iconst 1, 1) := by decide +kernel
theorem dX7_lacking_42 : decode cX7_lacking 42 = .ok (.iaload, 1) := by decide +kernel
theorem dX7_lacking_43 : decode cX7_lacking 43 = .ok (.istore_n 2, 1) := by decide +kernel
theorem dX7_lacking_44 : decode cX7_lacking 44 = .ok (.aload_n 1, 1) := by decide +kernel
theorem dX7_lacking_45 : decode cX7_lacking 45 = .ok (.iconst 0, 1) := by decide +kernel
theorem dX7_lacking_46 : decode cX7_lacking 46 = .ok (.iaload, 1) := by decide +kernel
theorem dX7_lacking_47 : decode cX7_lacking 47 = .ok (.ifCond .eq 15, 3) := by decide +kernel
theorem dX7_lacking_50 : decode cX7_lacking 50 = .ok (.iload_n 2, 1) := by decide +kernel
theorem dX7_lacking_51 : decode cX7_lacking 51 = .ok (.bipush 100, 2) := by decide +kernel
theorem dX7_lacking_53 : decode cX7_lacking 53 = .ok (.if_icmp .ne 12, 3) := by decide +kernel
theorem dX7_lacking_56 : decode cX7_lacking 56 = .ok (.aload_n 1, 1) := by decide +kernel
theorem dX7_lacking_57 : decode cX7_lacking 57 = .ok (.iconst 3, 1) := by decide +kernel
theorem dX7_lacking_58 : decode cX7_lacking 58 = .ok (.iaload, 1) := by decide +kernel
theorem dX7_lacking_59 : decode cX7_lacking 59 = .ok (.ifCond .le 6, 3) := by decide +kernel
theorem dX7_lacking_62 : decode cX7_lacking 62 = .ok (.bipush (-4), 2) := by decide +kernel
theorem dX7_lacking_64 : decode cX7_lacking 64 = .ok (.ireturn, 1) := by decide +kernel
theorem dX7_lacking_65 : decode cX7_lacking 65 = .ok (.aload_n 1, 1) := by decide +kernel
theorem dX7_lacking_66 : decode cX7_lacking 66 = .ok (.iconst 2, 1) := by decide +kernel
theorem dX7_lacking_67 : decode cX7_lacking 67 = .ok (.iaload, 1) := by decide +kernel
theorem dX7_lacking_68 : decode cX7_lacking 68 = .ok (.aload_n 1, 1) := by decide +kernel
theorem dX7_lacking_69 : decode cX7_lacking 69 = .ok (.iconst 3, 1) := by decide +kernel
theorem dX7_lacking_70 : decode cX7_lacking 70 = .ok (.iaload, 1) := by decide +kernel
theorem dX7_lacking_71 : decode cX7_lacking 71 = .ok (.iadd, 1) := by decide +kernel
theorem dX7_lacking_72 : decode cX7_lacking 72 = .ok (.ifCond .le 7, 3) := by decide +kernel
theorem dX7_lacking_75 : decode cX7_lacking 75 = .ok (.iconst 0, 1) := by decide +kernel
theorem dX7_lacking_76 : decode cX7_lacking 76 = .ok (.goto 4, 3) := by decide +kernel
theorem dX7_lacking_79 : decode cX7_lacking 79 = .ok (.iconst 1, 1) := by decide +kernel
theorem dX7_lacking_80 : decode cX7_lacking 80 = .ok (.istore_n 3, 1) := by decide +kernel
theorem dX7_lacking_81 : decode cX7_lacking 81 = .ok (.aload_n 0, 1) := by decide +kernel
theorem dX7_lacking_82 : decode cX7_lacking 82 = .ok (.getfield 10, 3) := by decide +kernel
theorem dX7_lacking_85 : decode cX7_lacking 85 = .ok (.getfield 82, 3) := by decide +kernel
theorem dX7_lacking_88 : decode cX7_lacking 88 = .ok (.iconst 0, 1) := by decide +kernel
theorem dX7_lacking_89 : decode cX7_lacking 89 = .ok (.iaload, 1) := by decide +kernel
theorem dX7_lacking_90 : decode cX7_lacking 90 = .ok (.aload_n 1, 1) := by decide +kernel
theorem dX7_lacking_91 : decode cX7_lacking 91 = .ok (.iconst 0, 1) := by decide +kernel
theorem dX7_lacking_92 : decode cX7_lacking 92 = .ok (.iaload, 1) := by decide +kernel
theorem dX7_lacking_93 : decode cX7_lacking 93 = .ok (.imul, 1) := by decide +kernel
theorem dX7_lacking_94 : decode cX7_lacking 94 = .ok (.bipush 100, 2) := by decide +kernel
theorem dX7_lacking_96 : decode cX7_lacking 96 = .ok (.invokestatic 170, 3) := by decide +kernel
theorem dX7_lacking_99 : decode cX7_lacking 99 = .ok (.aload_n 1, 1) := by decide +kernel
theorem dX7_lacking_100 : decode cX7_lacking 100 = .ok (.iconst 1, 1) := by decide +kernel
theorem dX7_lacking_101 : decode cX7_lacking 101 = .ok (.iaload, 1) := by decide +kernel
theorem dX7_lacking_102 : decode cX7_lacking 102 = .ok (.isub, 1) := by decide +kernel
theorem dX7_lacking_103 : decode cX7_lacking 103 = .ok (.istore 4, 2) := by decide +kernel
theorem dX7_lacking_105 : decode cX7_lacking 105 = .ok (.iload_n 2, 1) := by decide +kernel
theorem dX7_lacking_106 : decode cX7_lacking 106 = .ok (.aload_n 1, 1) := by decide +kernel
theorem dX7_lacking_107 : decode cX7_lacking 107 = .ok (.iconst 3, 1) := by decide +kernel
theorem dX7_lacking_108 : decode cX7_lacking 108 = .ok (.iaload, 1) := by decide +kernel
theorem dX7_lacking_109 : decode cX7_lacking 109 = .ok (.imul, 1) := by decide +kernel
theorem dX7_lacking_110 : decode cX7_lacking 110 = .ok (.bipush 100, 2) := by decide +kernel
theorem dX7_lacking_112 : decode cX7_lacking 112 = .ok (.iload_n 2, 1) := by decide +kernel
theorem dX7_lacking_113 : decode cX7_lacking 113 = .ok (.isub, 1) := by decide +kernel
theorem dX7_lacking_114 : decode cX7_lacking 114 = .ok (.invokestatic 170, 3) := by decide +kernel
theorem dX7_lacking_117 : decode cX7_lacking 117 = .ok (.aload_n 1, 1) := by decide +kernel
theorem dX7_lacking_118 : decode cX7_lacking 118 = .ok (.iconst 2, 1) := by decide +kernel
theorem dX7_lacking_119 : decode cX7_lacking 119 = .ok (.iaload, 1) := by decide +kernel
theorem dX7_lacking_120 : decode cX7_lacking 120 = .ok (.isub, 1) := by decide +kernel
theorem dX7_lacking_121 : decode cX7_lacking 121 = .ok (.istore 5, 2) := by decide +kernel
theorem dX7_lacking_123 : decode cX7_lacking 123 = .ok (.iload_n 3, 1) := by decide +kernel
theorem dX7_lacking_124 : decode cX7_lacking 124 = .ok (.iload 4, 2) := by decide +kernel
theorem dX7_lacking_126 : decode cX7_lacking 126 = .ok (.iload 5, 2) := by decide +kernel
theorem dX7_lacking_128 : decode cX7_lacking 128 = .ok (.invokestatic 173, 3) := by decide +kernel
theorem dX7_lacking_131 : decode cX7_lacking 131 = .ok (.invokestatic 173, 3) := by decide +kernel
theorem dX7_lacking_134 : decode cX7_lacking 134 = .ok (.ireturn, 1) := by decide +kernel
theorem dX7_comment_0 : decode cX7_comment 0 = .ok (.aload_n 0, 1) := by decide +kernel
theorem dX7_comment_1 : decode cX7_comment 1 = .ok (.getfield 10, 3) := by decide +kernel
theorem dX7_comment_4 : decode cX7_comment 4 = .ok (.getfield 61, 3) := by decide +kernel
theorem dX7_comment_7 : decode cX7_comment 7 = .ok (.iload_n 2, 1) := by decide +kernel
theorem dX7_comment_8 : decode cX7_comment 8 = .ok (.invokevirtual 65, 3) := by decide +kernel
theorem dX7_comment_11 : decode cX7_comment 11 = .ok (.istore 5, 2) := by decide +kernel
theorem dX7_comment_13 : decode cX7_comment 13 = .ok (.aload_n 0, 1) := by decide +kernel
theorem dX7_comment_14 : decode cX7_comment 14 = .ok (.getfield 10, 3) := by decide +kernel
theorem dX7_comment_17 : decode cX7_comment 17 = .ok (.getfield 30, 3) := by decide +kernel
theorem dX7_comment_20 : decode cX7_comment 20 = .ok (.iload_n 1, 1) := by decide +kernel
theorem dX7_comment_21 : decode cX7_comment 21 = .ok (.invokevirtual 85, 3) := by decide +kernel
theorem dX7_comment_24 : decode cX7_comment 24 = .ok (.ifCond .eq 9, 3) := by decide +kernel
theorem dX7_comment_27 : decode cX7_comment 27 = .ok (.iload 5, 2) := by decide +kernel
theorem dX7_comment_29 : decode cX7_comment 29 = .ok (.iconst (-1), 1) := by decide +kernel
theorem dX7_comment_30 : decode cX7_comment 30 = .ok (.if_icmp .ne 5, 3) := by decide +kernel
theorem dX7_comment_33 : decode cX7_comment 33 = .ok (.iconst (-1), 1) := by decide +kernel
theorem dX7_comment_34 : decode cX7_comment 34 = .ok (.ireturn, 1) := by decide +kernel
theorem dX7_comment_35 : decode cX7_comment 35 = .ok (.iload_n 3, 1) := by decide +kernel
theorem dX7_comment_36 : decode cX7_comment 36 = .ok (.ifCond .lt 16, 3) := by decide +kernel
theorem dX7_comment_39 : decode cX7_comment 39 = .ok (.iload_n 3, 1) := by decide +kernel
theorem dX7_comment_40 : decode cX7_comment 40 = .ok (.iconst 1, 1) := by decide +kernel
theorem dX7_comment_41 : decode cX7_comment 41 = .ok (.if_icmp .gt 11, 3) := by decide +kernel
theorem dX7_comment_44 : decode cX7_comment 44 = .ok (.iload 4, 2) := by decide +kernel
theorem dX7_comment_46 : decode cX7_comment 46 = .ok (.invokestatic 48, 3) := by decide +kernel
theorem dX7_comment_49 : decode cX7_comment 49 = .ok (.ifCond .ne 5, 3) := by decide +kernel
theorem dX7_comment_52 : decode cX7_comment 52 = .ok (.iconst (-1), 1) := by decide +kernel
theorem dX7_comment_53 : decode cX7_comment 53 = .ok (.ireturn, 1) := by decide +kernel
theorem dX7_comment_54 : decode cX7_comment 54 = .ok (.aload_n 0, 1) := by decide +kernel
theorem dX7_comment_55 : decode cX7_comment 55 = .ok (.getfield 10, 3) := by decide +kernel
theorem dX7_comment_58 : decode cX7_comment 58 = .ok (.getfield 52, 3) := by decide +kernel
theorem dX7_comment_61 : decode cX7_comment 61 = .ok (.getfield 136, 3) := by decide +kernel
theorem dX7_comment_64 : decode cX7_comment 64 = .ok (.ifCond .eq 21, 3) := by decide +kernel
theorem dX7_comment_67 : decode cX7_comment 67 = .ok (.aload_n 0, 1) := by decide +kernel
theorem dX7_comment_68 : decode cX7_comment 68 = .ok (.getfield 10, 3) := by decide +kernel
theorem dX7_comment_71 : decode cX7_comment 71 = .ok (.getfield 61, 3) := by decide +kernel
theorem dX7_comment_74 : decode cX7_comment 74 = .ok (.getfield 115, 3) := by decide +kernel
theorem dX7_comment_77 : decode cX7_comment 77 = .ok (.iload 5, 2) := by decide +kernel
theorem dX7_comment_79 : decode cX7_comment 79 = .ok (.iaload, 1) := by decide +kernel
theorem dX7_comment_80 : decode cX7_comment 80 = .ok (.iload 4, 2) := by decide +kernel
theorem dX7_comment_82 : decode cX7_comment 82 = .ok (.if_icmp .ne 6, 3) := by decide +kernel
theorem dX7_comment_85 : decode cX7_comment 85 = .ok (.bipush (-2), 2) := by decide +kernel
theorem dX7_comment_87 : decode cX7_comment 87 = .ok (.ireturn, 1) := by decide +kernel
theorem dX7_comment_88 : decode cX7_comment 88 = .ok (.aload_n 0, 1) := by decide +kernel
theorem dX7_comment_89 : decode cX7_comment 89 = .ok (.getfield 10, 3) := by decide +kernel
theorem dX7_comment_92 : decode cX7_comment 92 = .ok (.getfield 103, 3) := by decide +kernel
theorem dX7_comment_95 : decode cX7_comment 95 = .ok (.getfield 140, 3) := by decide +kernel
theorem dX7_comment_98 : decode cX7_comment 98 = .ok (.bipush 30, 2) := by decide +kernel
theorem dX7_comment_100 : decode cX7_comment 100 = .ok (.if_icmp .lt 6, 3) := by decide +kernel
theorem dX7_comment_103 : decode cX7_comment 103 = .ok (.bipush (-3), 2) := by decide +kernel
theorem dX7_comment_105 : decode cX7_comment 105 = .ok (.ireturn, 1) := by decide +kernel
theorem dX7_comment_106 : decode cX7_comment 106 = .ok (.aload_n 0, 1) := by decide +kernel
theorem dX7_comment_107 : decode cX7_comment 107 = .ok (.getfield 19, 3) := by decide +kernel
theorem dX7_comment_110 : decode cX7_comment 110 = .ok (.aload_n 0, 1) := by decide +kernel
theorem dX7_comment_111 : decode cX7_comment 111 = .ok (.getfield 10, 3) := by decide +kernel
theorem dX7_comment_114 : decode cX7_comment 114 = .ok (.invokevirtual 40, 3) := by decide +kernel
theorem dX7_comment_117 : decode cX7_comment 117 = .ok (.aload_n 0, 1) := by decide +kernel
theorem dX7_comment_118 : decode cX7_comment 118 = .ok (.getfield 10, 3) := by decide +kernel
theorem dX7_comment_121 : decode cX7_comment 121 = .ok (.getfield 103, 3) := by decide +kernel
theorem dX7_comment_124 : decode cX7_comment 124 = .ok (.iload_n 1, 1) := by decide +kernel
theorem dX7_comment_125 : decode cX7_comment 125 = .ok (.iload 5, 2) := by decide +kernel
theorem dX7_comment_127 : decode cX7_comment 127 = .ok (.iload_n 3, 1) := by decide +kernel
theorem dX7_comment_128 : decode cX7_comment 128 = .ok (.iload 4, 2) := by decide +kernel
theorem dX7_comment_130 : decode cX7_comment 130 = .ok (.invokevirtual 178, 3) := by decide +kernel
theorem dX7_comment_133 : decode cX7_comment 133 = .ok (.ireturn, 1) := by decide +kernel
theorem dX7_told_0 : decode cX7_told 0 = .ok (.aload_n 0, 1) := by decide +kernel
theorem dX7_told_1 : decode cX7_told 1 = .ok (.getfield 10, 3) := by decide +kernel
theorem dX7_told_4 : decode cX7_told 4 = .ok (.getfield 103, 3) := by decide +kernel
theorem dX7_told_7 : decode cX7_told 7 = .ok (.iload_n 1, 1) := by decide +kernel
theorem dX7_told_8 : decode cX7_told 8 = .ok (.invokevirtual 181, 3) := by decide +kernel
theorem dX7_told_11 : decode cX7_told 11 = .ok (.ifCond .ne 5, 3) := by decide +kernel
theorem dX7_told_14 : decode cX7_told 14 = .ok (.iconst (-1), 1) := by decide +kernel
theorem dX7_told_15 : decode cX7_told 15 = .ok (.ireturn, 1) := by decide +kernel
theorem dX7_told_16 : decode cX7_told 16 = .ok (.iload_n 2, 1) := by decide +kernel
theorem dX7_told_17 : decode cX7_told 17 = .ok (.tableswitch 183 0 6 #[43, 56, 80, 93, 106, 119, 151], 43) := by decide +kernel
theorem dX7_told_60 : decode cX7_told 60 = .ok (.aload_n 0, 1) := by decide +kernel
theorem dX7_told_61 : decode cX7_told 61 = .ok (.getfield 10, 3) := by decide +kernel
theorem dX7_told_64 : decode cX7_told 64 = .ok (.getfield 103, 3) := by decide +kernel
theorem dX7_told_67 : decode cX7_told 67 = .ok (.getfield 182, 3) := by decide +kernel
theorem dX7_told_70 : decode cX7_told 70 = .ok (.iload_n 1, 1) := by decide +kernel
theorem dX7_told_71 : decode cX7_told 71 = .ok (.iaload, 1) := by decide +kernel
theorem dX7_told_72 : decode cX7_told 72 = .ok (.ireturn, 1) := by decide +kernel
theorem dX7_told_73 : decode cX7_told 73 = .ok (.aload_n 0, 1) := by decide +kernel
theorem dX7_told_74 : decode cX7_told 74 = .ok (.getfield 10, 3) := by decide +kernel
theorem dX7_told_77 : decode cX7_told 77 = .ok (.getfield 61, 3) := by decide +kernel
theorem dX7_told_80 : decode cX7_told 80 = .ok (.getfield 128, 3) := by decide +kernel
theorem dX7_told_83 : decode cX7_told 83 = .ok (.aload_n 0, 1) := by decide +kernel
theorem dX7_told_84 : decode cX7_told 84 = .ok (.getfield 10, 3) := by decide +kernel
theorem dX7_told_87 : decode cX7_told 87 = .ok (.getfield 103, 3) := by decide +kernel
theorem dX7_told_90 : decode cX7_told 90 = .ok (.getfield 185, 3) := by decide +kernel
theorem dX7_told_93 : decode cX7_told 93 = .ok (.iload_n 1, 1) := by decide +kernel
theorem dX7_told_94 : decode cX7_told 94 = .ok (.iaload, 1) := by decide +kernel
theorem dX7_told_95 : decode cX7_told 95 = .ok (.iaload, 1) := by decide +kernel
theorem dX7_told_96 : decode cX7_told 96 = .ok (.ireturn, 1) := by decide +kernel
theorem dX7_told_97 : decode cX7_told 97 = .ok (.aload_n 0, 1) := by decide +kernel
theorem dX7_told_98 : decode cX7_told 98 = .ok (.getfield 10, 3) := by decide +kernel
theorem dX7_told_101 : decode cX7_told 101 = .ok (.getfield 103, 3) := by decide +kernel
theorem dX7_told_104 : decode cX7_told 104 = .ok (.getfield 188, 3) := by decide +kernel
theorem dX7_told_107 : decode cX7_told 107 = .ok (.iload_n 1, 1) := by decide +kernel
theorem dX7_told_108 : decode cX7_told 108 = .ok (.iaload, 1) := by decide +kernel
theorem dX7_told_109 : decode cX7_told 109 = .ok (.ireturn, 1) := by decide +kernel
theorem dX7_told_110 : decode cX7_told 110 = .ok (.aload_n 0, 1) := by decide +kernel
theorem dX7_told_111 : decode cX7_told 111 = .ok (.getfield 10, 3) := by decide +kernel
theorem dX7_told_114 : decode cX7_told 114 = .ok (.getfield 103, 3) := by decide +kernel
theorem dX7_told_117 : decode cX7_told 117 = .ok (.getfield 191, 3) := by decide +kernel
theorem dX7_told_120 : decode cX7_told 120 = .ok (.iload_n 1, 1) := by decide +kernel
theorem dX7_told_121 : decode cX7_told 121 = .ok (.iaload, 1) := by decide +kernel
theorem dX7_told_122 : decode cX7_told 122 = .ok (.ireturn, 1) := by decide +kernel
theorem dX7_told_123 : decode cX7_told 123 = .ok (.aload_n 0, 1) := by decide +kernel
theorem dX7_told_124 : decode cX7_told 124 = .ok (.getfield 10, 3) := by decide +kernel
theorem dX7_told_127 : decode cX7_told 127 = .ok (.getfield 103, 3) := by decide +kernel
theorem dX7_told_130 : decode cX7_told 130 = .ok (.getfield 194, 3) := by decide +kernel
theorem dX7_told_133 : decode cX7_told 133 = .ok (.iload_n 1, 1) := by decide +kernel
theorem dX7_told_134 : decode cX7_told 134 = .ok (.iaload, 1) := by decide +kernel
theorem dX7_told_135 : decode cX7_told 135 = .ok (.ireturn, 1) := by decide +kernel
theorem dX7_told_136 : decode cX7_told 136 = .ok (.aload_n 0, 1) := by decide +kernel
theorem dX7_told_137 : decode cX7_told 137 = .ok (.getfield 10, 3) := by decide +kernel
theorem dX7_told_140 : decode cX7_told 140 = .ok (.getfield 103, 3) := by decide +kernel
theorem dX7_told_143 : decode cX7_told 143 = .ok (.iload_n 1, 1) := by decide +kernel
theorem dX7_told_144 : decode cX7_told 144 = .ok (.invokevirtual 197, 3) := by decide +kernel
theorem dX7_told_147 : decode cX7_told 147 = .ok (.ifCond .eq 18, 3) := by decide +kernel
theorem dX7_told_150 : decode cX7_told 150 = .ok (.aload_n 0, 1) := by decide +kernel
theorem dX7_told_151 : decode cX7_told 151 = .ok (.getfield 10, 3) := by decide +kernel
theorem dX7_told_154 : decode cX7_told 154 = .ok (.getfield 103, 3) := by decide +kernel
theorem dX7_told_157 : decode cX7_told 157 = .ok (.getfield 200, 3) := by decide +kernel
theorem dX7_told_160 : decode cX7_told 160 = .ok (.iload_n 1, 1) := by decide +kernel
theorem dX7_told_161 : decode cX7_told 161 = .ok (.iaload, 1) := by decide +kernel
theorem dX7_told_162 : decode cX7_told 162 = .ok (.goto 5, 3) := by decide +kernel
theorem dX7_told_165 : decode cX7_told 165 = .ok (.bipush (-4), 2) := by decide +kernel
theorem dX7_told_167 : decode cX7_told 167 = .ok (.ireturn, 1) := by decide +kernel
theorem dX7_told_168 : decode cX7_told 168 = .ok (.aload_n 0, 1) := by decide +kernel
theorem dX7_told_169 : decode cX7_told 169 = .ok (.getfield 10, 3) := by decide +kernel
theorem dX7_told_172 : decode cX7_told 172 = .ok (.getfield 103, 3) := by decide +kernel
theorem dX7_told_175 : decode cX7_told 175 = .ok (.iload_n 1, 1) := by decide +kernel
theorem dX7_told_176 : decode cX7_told 176 = .ok (.invokevirtual 203, 3) := by decide +kernel
theorem dX7_told_179 : decode cX7_told 179 = .ok (.ifCond .eq 18, 3) := by decide +kernel
theorem dX7_told_182 : decode cX7_told 182 = .ok (.aload_n 0, 1) := by decide +kernel
theorem dX7_told_183 : decode cX7_told 183 = .ok (.getfield 10, 3) := by decide +kernel
theorem dX7_told_186 : decode cX7_told 186 = .ok (.getfield 103, 3) := by decide +kernel
theorem dX7_told_189 : decode cX7_told 189 = .ok (.getfield 206, 3) := by decide +kernel
theorem dX7_told_192 : decode cX7_told 192 = .ok (.iload_n 1, 1) := by decide +kernel
theorem dX7_told_193 : decode cX7_told 193 = .ok (.iaload, 1) := by decide +kernel
theorem dX7_told_194 : decode cX7_told 194 = .ok (.goto 5, 3) := by decide +kernel
theorem dX7_told_197 : decode cX7_told 197 = .ok (.bipush (-4), 2) := by decide +kernel
theorem dX7_told_199 : decode cX7_told 199 = .ok (.ireturn, 1) := by decide +kernel
theorem dX7_told_200 : decode cX7_told 200 = .ok (.iconst (-1), 1) := by decide +kernel
theorem dX7_told_201 : decode cX7_told 201 = .ok (.ireturn, 1) := by decide +kernel
theorem dX7_next_0 : decode cX7_next 0 = .ok (.aload_n 0, 1) := by decide +kernel
theorem dX7_next_1 : decode cX7_next 1 = .ok (.getfield 10, 3) := by decide +kernel
theorem dX7_next_4 : decode cX7_next 4 = .ok (.getfield 103, 3) := by decide +kernel
theorem dX7_next_7 : decode cX7_next 7 = .ok (.aload_n 0, 1) := by decide +kernel
theorem dX7_next_8 : decode cX7_next 8 = .ok (.getfield 10, 3) := by decide +kernel
theorem dX7_next_11 : decode cX7_next 11 = .ok (.getfield 30, 3) := by decide +kernel
theorem dX7_next_14 : decode cX7_next 14 = .ok (.invokevirtual 209, 3) := by decide +kernel
theorem dX7_next_17 : decode cX7_next 17 = .ok (.istore_n 1, 1) := by decide +kernel
theorem dX7_next_18 : decode cX7_next 18 = .ok (.iload_n 1, 1) := by decide +kernel
theorem dX7_next_19 : decode cX7_next 19 = .ok (.iconst (-1), 1) := by decide +kernel
theorem dX7_next_20 : decode cX7_next 20 = .ok (.if_icmp .ne 8, 3) := by decide +kernel
theorem dX7_next_23 : decode cX7_next 23 = .ok (.bipush (-4), 2) := by decide +kernel
theorem dX7_next_25 : decode cX7_next 25 = .ok (.goto 4, 3) := by decide +kernel
theorem dX7_next_28 : decode cX7_next 28 = .ok (.iload_n 1, 1) := by decide +kernel
theorem dX7_next_29 : decode cX7_next 29 = .ok (.ireturn, 1) := by decide +kernel
theorem dX7_resolve_0 : decode cX7_resolve 0 = .ok (.iload_n 1, 1) := by decide +kernel
theorem dX7_resolve_1 : decode cX7_resolve 1 = .ok (.ifCond .lt 15, 3) := by decide +kernel
theorem dX7_resolve_4 : decode cX7_resolve 4 = .ok (.iload_n 1, 1) := by decide +kernel
theorem dX7_resolve_5 : decode cX7_resolve 5 = .ok (.iconst 2, 1) := by decide +kernel
theorem dX7_resolve_6 : decode cX7_resolve 6 = .ok (.if_icmp .gt 10, 3) := by decide +kernel
theorem dX7_resolve_9 : decode cX7_resolve 9 = .ok (.iload_n 2, 1) := by decide +kernel
theorem dX7_resolve_10 : decode cX7_resolve 10 = .ok (.invokestatic 48, 3) := by decide +kernel
theorem dX7_resolve_13 : decode cX7_resolve 13 = .ok (.ifCond .ne 5, 3) := by decide +kernel
theorem dX7_resolve_16 : decode cX7_resolve 16 = .ok (.iconst (-1), 1) := by decide +kernel
theorem dX7_resolve_17 : decode cX7_resolve 17 = .ok (.ireturn, 1) := by decide +kernel
theorem dX7_resolve_18 : decode cX7_resolve 18 = .ok (.iload_n 1, 1) := by decide +kernel
theorem dX7_resolve_19 : decode cX7_resolve 19 = .ok (.iconst 1, 1) := by decide +kernel
theorem dX7_resolve_20 : decode cX7_resolve 20 = .ok (.if_icmp .eq 9, 3) := by decide +kernel
theorem dX7_resolve_23 : decode cX7_resolve 23 = .ok (.iload_n 2, 1) := by decide +kernel
theorem dX7_resolve_24 : decode cX7_resolve 24 = .ok (.ifCond .eq 5, 3) := by decide +kernel
theorem dX7_resolve_27 : decode cX7_resolve 27 = .ok (.iconst (-1), 1) := by decide +kernel
theorem dX7_resolve_28 : decode cX7_resolve 28 = .ok (.ireturn, 1) := by decide +kernel
theorem dX7_resolve_29 : decode cX7_resolve 29 = .ok (.aload_n 0, 1) := by decide +kernel
theorem dX7_resolve_30 : decode cX7_resolve 30 = .ok (.getfield 10, 3) := by decide +kernel
theorem dX7_resolve_33 : decode cX7_resolve 33 = .ok (.getfield 103, 3) := by decide +kernel
theorem dX7_resolve_36 : decode cX7_resolve 36 = .ok (.aload_n 0, 1) := by decide +kernel
theorem dX7_resolve_37 : decode cX7_resolve 37 = .ok (.getfield 10, 3) := by decide +kernel
theorem dX7_resolve_40 : decode cX7_resolve 40 = .ok (.getfield 30, 3) := by decide +kernel
theorem dX7_resolve_43 : decode cX7_resolve 43 = .ok (.invokevirtual 209, 3) := by decide +kernel
theorem dX7_resolve_46 : decode cX7_resolve 46 = .ok (.istore_n 3, 1) := by decide +kernel
theorem dX7_resolve_47 : decode cX7_resolve 47 = .ok (.iload_n 3, 1) := by decide +kernel
theorem dX7_resolve_48 : decode cX7_resolve 48 = .ok (.iconst (-1), 1) := by decide +kernel
theorem dX7_resolve_49 : decode cX7_resolve 49 = .ok (.if_icmp .ne 6, 3) := by decide +kernel
theorem dX7_resolve_52 : decode cX7_resolve 52 = .ok (.bipush (-2), 2) := by decide +kernel
theorem dX7_resolve_54 : decode cX7_resolve 54 = .ok (.ireturn, 1) := by decide +kernel
theorem dX7_resolve_55 : decode cX7_resolve 55 = .ok (.iload_n 1, 1) := by decide +kernel
theorem dX7_resolve_56 : decode cX7_resolve 56 = .ok (.ifCond .ne 18, 3) := by decide +kernel
theorem dX7_resolve_59 : decode cX7_resolve 59 = .ok (.aload_n 0, 1) := by decide +kernel
theorem dX7_resolve_60 : decode cX7_resolve 60 = .ok (.getfield 10, 3) := by decide +kernel
theorem dX7_resolve_63 : decode cX7_resolve 63 = .ok (.getfield 103, 3) := by decide +kernel
theorem dX7_resolve_66 : decode cX7_resolve 66 = .ok (.getfield 191, 3) := by decide +kernel
theorem dX7_resolve_69 : decode cX7_resolve 69 = .ok (.iload_n 3, 1) := by decide +kernel
theorem dX7_resolve_70 : decode cX7_resolve 70 = .ok (.iaload, 1) := by decide +kernel
theorem dX7_resolve_71 : decode cX7_resolve 71 = .ok (.goto 4, 3) := by decide +kernel
theorem dX7_resolve_74 : decode cX7_resolve 74 = .ok (.iload_n 2, 1) := by decide +kernel
theorem dX7_resolve_75 : decode cX7_resolve 75 = .ok (.istore 4, 2) := by decide +kernel
theorem dX7_resolve_77 : decode cX7_resolve 77 = .ok (.iload_n 1, 1) := by decide +kernel
theorem dX7_resolve_78 : decode cX7_resolve 78 = .ok (.iconst 2, 1) := by decide +kernel
theorem dX7_resolve_79 : decode cX7_resolve 79 = .ok (.if_icmp .eq 33, 3) := by decide +kernel
theorem dX7_resolve_82 : decode cX7_resolve 82 = .ok (.aload_n 0, 1) := by decide +kernel
theorem dX7_resolve_83 : decode cX7_resolve 83 = .ok (.getfield 10, 3) := by decide +kernel
theorem dX7_resolve_86 : decode cX7_resolve 86 = .ok (.getfield 61, 3) := by decide +kernel
theorem dX7_resolve_89 : decode cX7_resolve 89 = .ok (.aload_n 0, 1) := by decide +kernel
theorem dX7_resolve_90 : decode cX7_resolve 90 = .ok (.getfield 10, 3) := by decide +kernel
theorem dX7_resolve_93 : decode cX7_resolve 93 = .ok (.getfield 103, 3) := by decide +kernel
theorem dX7_resolve_96 : decode cX7_resolve 96 = .ok (.getfield 185, 3) := by decide +kernel
theorem dX7_resolve_99 : decode cX7_resolve 99 = .ok (.iload_n 3, 1) := by decide +kernel
theorem dX7_resolve_100 : decode cX7_resolve 100 = .ok (.iaload, 1) := by decide +kernel
theorem dX7_resolve_101 : decode cX7_resolve 101 = .ok (.iload 4, 2) := by decide +kernel
theorem dX7_resolve_103 : decode cX7_resolve 103 = .ok (.invokevirtual 213, 3) := by decide +kernel
theorem dX7_resolve_106 : decode cX7_resolve 106 = .ok (.ifCond .ne 6, 3) := by decide +kernel
theorem dX7_resolve_109 : decode cX7_resolve 109 = .ok (.bipush (-2), 2) := by decide +kernel
theorem dX7_resolve_111 : decode cX7_resolve 111 = .ok (.ireturn, 1) := by decide +kernel
theorem dX7_resolve_112 : decode cX7_resolve 112 = .ok (.aload_n 0, 1) := by decide +kernel
theorem dX7_resolve_113 : decode cX7_resolve 113 = .ok (.getfield 19, 3) := by decide +kernel
theorem dX7_resolve_116 : decode cX7_resolve 116 = .ok (.aload_n 0, 1) := by decide +kernel
theorem dX7_resolve_117 : decode cX7_resolve 117 = .ok (.getfield 10, 3) := by decide +kernel
theorem dX7_resolve_120 : decode cX7_resolve 120 = .ok (.invokevirtual 40, 3) := by decide +kernel
theorem dX7_resolve_123 : decode cX7_resolve 123 = .ok (.aload_n 0, 1) := by decide +kernel
theorem dX7_resolve_124 : decode cX7_resolve 124 = .ok (.getfield 10, 3) := by decide +kernel
theorem dX7_resolve_127 : decode cX7_resolve 127 = .ok (.iload_n 3, 1) := by decide +kernel
theorem dX7_resolve_128 : decode cX7_resolve 128 = .ok (.iload_n 1, 1) := by decide +kernel
theorem dX7_resolve_129 : decode cX7_resolve 129 = .ok (.iload 4, 2) := by decide +kernel
theorem dX7_resolve_131 : decode cX7_resolve 131 = .ok (.invokevirtual 217, 3) := by decide +kernel
theorem dX7_resolve_134 : decode cX7_resolve 134 = .ok (.aload_n 0, 1) := by decide +kernel
theorem dX7_resolve_135 : decode cX7_resolve 135 = .ok (.getfield 10, 3) := by decide +kernel
theorem dX7_resolve_138 : decode cX7_resolve 138 = .ok (.getfield 103, 3) := by decide +kernel
theorem dX7_resolve_141 : decode cX7_resolve 141 = .ok (.invokevirtual 141, 3) := by decide +kernel
theorem dX7_resolve_144 : decode cX7_resolve 144 = .ok (.ireturn, 1) := by decide +kernel
theorem dX7_appeal_0 : decode cX7_appeal 0 = .ok (.aload_n 0, 1) := by decide +kernel
theorem dX7_appeal_1 : decode cX7_appeal 1 = .ok (.getfield 10, 3) := by decide +kernel
theorem dX7_appeal_4 : decode cX7_appeal 4 = .ok (.getfield 103, 3) := by decide +kernel
theorem dX7_appeal_7 : decode cX7_appeal 7 = .ok (.iload_n 1, 1) := by decide +kernel
theorem dX7_appeal_8 : decode cX7_appeal 8 = .ok (.invokevirtual 181, 3) := by decide +kernel
theorem dX7_appeal_11 : decode cX7_appeal 11 = .ok (.ifCond .eq 17, 3) := by decide +kernel
theorem dX7_appeal_14 : decode cX7_appeal 14 = .ok (.aload_n 0, 1) := by decide +kernel
theorem dX7_appeal_15 : decode cX7_appeal 15 = .ok (.getfield 10, 3) := by decide +kernel
theorem dX7_appeal_18 : decode cX7_appeal 18 = .ok (.getfield 30, 3) := by decide +kernel
theorem dX7_appeal_21 : decode cX7_appeal 21 = .ok (.iload_n 2, 1) := by decide +kernel
theorem dX7_appeal_22 : decode cX7_appeal 22 = .ok (.invokevirtual 85, 3) := by decide +kernel
theorem dX7_appeal_25 : decode cX7_appeal 25 = .ok (.ifCond .ne 5, 3) := by decide +kernel
theorem dX7_appeal_28 : decode cX7_appeal 28 = .ok (.iconst (-1), 1) := by decide +kernel
theorem dX7_appeal_29 : decode cX7_appeal 29 = .ok (.ireturn, 1) := by decide +kernel
theorem dX7_appeal_30 : decode cX7_appeal 30 = .ok (.aload_n 0, 1) := by decide +kernel
theorem dX7_appeal_31 : decode cX7_appeal 31 = .ok (.getfield 10, 3) := by decide +kernel
theorem dX7_appeal_34 : decode cX7_appeal 34 = .ok (.getfield 30, 3) := by decide +kernel
theorem dX7_appeal_37 : decode cX7_appeal 37 = .ok (.iload_n 3, 1) := by decide +kernel
theorem dX7_appeal_38 : decode cX7_appeal 38 = .ok (.invokevirtual 221, 3) := by decide +kernel
theorem dX7_appeal_41 : decode cX7_appeal 41 = .ok (.ifCond .eq 11, 3) := by decide +kernel
theorem dX7_appeal_44 : decode cX7_appeal 44 = .ok (.iload_n 3, 1) := by decide +kernel
theorem dX7_appeal_45 : decode cX7_appeal 45 = .ok (.iload_n 2, 1) := by decide +kernel
theorem dX7_appeal_46 : decode cX7_appeal 46 = .ok (.ishr, 1) := by decide +kernel
theorem dX7_appeal_47 : decode cX7_appeal 47 = .ok (.iconst 1, 1) := by decide +kernel
theorem dX7_appeal_48 : decode cX7_appeal 48 = .ok (.iand, 1) := by decide +kernel
theorem dX7_appeal_49 : decode cX7_appeal 49 = .ok (.ifCond .ne 5, 3) := by decide +kernel
theorem dX7_appeal_52 : decode cX7_appeal 52 = .ok (.iconst (-1), 1) := by decide +kernel
theorem dX7_appeal_53 : decode cX7_appeal 53 = .ok (.ireturn, 1) := by decide +kernel
theorem dX7_appeal_54 : decode cX7_appeal 54 = .ok (.aload_n 0, 1) := by decide +kernel
theorem dX7_appeal_55 : decode cX7_appeal 55 = .ok (.getfield 10, 3) := by decide +kernel
theorem dX7_appeal_58 : decode cX7_appeal 58 = .ok (.getfield 52, 3) := by decide +kernel
theorem dX7_appeal_61 : decode cX7_appeal 61 = .ok (.getfield 136, 3) := by decide +kernel
theorem dX7_appeal_64 : decode cX7_appeal 64 = .ok (.ifCond .ne 17, 3) := by decide +kernel
theorem dX7_appeal_67 : decode cX7_appeal 67 = .ok (.aload_n 0, 1) := by decide +kernel
theorem dX7_appeal_68 : decode cX7_appeal 68 = .ok (.getfield 10, 3) := by decide +kernel
theorem dX7_appeal_71 : decode cX7_appeal 71 = .ok (.getfield 103, 3) := by decide +kernel
theorem dX7_appeal_74 : decode cX7_appeal 74 = .ok (.iload_n 1, 1) := by decide +kernel
theorem dX7_appeal_75 : decode cX7_appeal 75 = .ok (.invokevirtual 197, 3) := by decide +kernel
theorem dX7_appeal_78 : decode cX7_appeal 78 = .ok (.ifCond .ne 6, 3) := by decide +kernel
theorem dX7_appeal_81 : decode cX7_appeal 81 = .ok (.bipush (-2), 2) := by decide +kernel
theorem dX7_appeal_83 : decode cX7_appeal 83 = .ok (.ireturn, 1) := by decide +kernel
theorem dX7_appeal_84 : decode cX7_appeal 84 = .ok (.aload_n 0, 1) := by decide +kernel
theorem dX7_appeal_85 : decode cX7_appeal 85 = .ok (.getfield 10, 3) := by decide +kernel
theorem dX7_appeal_88 : decode cX7_appeal 88 = .ok (.getfield 133, 3) := by decide +kernel
theorem dX7_appeal_91 : decode cX7_appeal 91 = .ok (.aload_n 0, 1) := by decide +kernel
theorem dX7_appeal_92 : decode cX7_appeal 92 = .ok (.getfield 10, 3) := by decide +kernel
theorem dX7_appeal_95 : decode cX7_appeal 95 = .ok (.getfield 103, 3) := by decide +kernel
theorem dX7_appeal_98 : decode cX7_appeal 98 = .ok (.getfield 200, 3) := by decide +kernel
theorem dX7_appeal_101 : decode cX7_appeal 101 = .ok (.iload_n 1, 1) := by decide +kernel
theorem dX7_appeal_102 : decode cX7_appeal 102 = .ok (.iaload, 1) := by decide +kernel
theorem dX7_appeal_103 : decode cX7_appeal 103 = .ok (.aload_n 0, 1) := by decide +kernel
theorem dX7_appeal_104 : decode cX7_appeal 104 = .ok (.getfield 10, 3) := by decide +kernel
theorem dX7_appeal_107 : decode cX7_appeal 107 = .ok (.getfield 82, 3) := by decide +kernel
theorem dX7_appeal_110 : decode cX7_appeal 110 = .ok (.iconst 3, 1) := by decide +kernel
theorem dX7_appeal_111 : decode cX7_appeal 111 = .ok (.iaload, 1) := by decide +kernel
theorem dX7_appeal_112 : decode cX7_appeal 112 = .ok (.iadd, 1) := by decide +kernel
theorem dX7_appeal_113 : decode cX7_appeal 113 = .ok (.if_icmp .le 6, 3) := by decide +kernel
theorem dX7_appeal_116 : decode cX7_appeal 116 = .ok (.bipush (-2), 2) := by decide +kernel
theorem dX7_appeal_118 : decode cX7_appeal 118 = .ok (.ireturn, 1) := by decide +kernel
theorem dX7_appeal_119 : decode cX7_appeal 119 = .ok (.aload_n 0, 1) := by decide +kernel
theorem dX7_appeal_120 : decode cX7_appeal 120 = .ok (.getfield 19, 3) := by decide +kernel
theorem dX7_appeal_123 : decode cX7_appeal 123 = .ok (.aload_n 0, 1) := by decide +kernel
theorem dX7_appeal_124 : decode cX7_appeal 124 = .ok (.getfield 10, 3) := by decide +kernel
theorem dX7_appeal_127 : decode cX7_appeal 127 = .ok (.invokevirtual 40, 3) := by decide +kernel
theorem dX7_appeal_130 : decode cX7_appeal 130 = .ok (.iconst 2, 1) := by decide +kernel
theorem dX7_appeal_131 : decode cX7_appeal 131 = .ok (.aload_n 0, 1) := by decide +kernel
theorem dX7_appeal_132 : decode cX7_appeal 132 = .ok (.getfield 10, 3) := by decide +kernel
theorem dX7_appeal_135 : decode cX7_appeal 135 = .ok (.iload_n 3, 1) := by decide +kernel
theorem dX7_appeal_136 : decode cX7_appeal 136 = .ok (.invokevirtual 224, 3) := by decide +kernel
theorem dX7_appeal_139 : decode cX7_appeal 139 = .ok (.imul, 1) := by decide +kernel
theorem dX7_appeal_140 : decode cX7_appeal 140 = .ok (.aload_n 0, 1) := by decide +kernel
theorem dX7_appeal_141 : decode cX7_appeal 141 = .ok (.getfield 10, 3) := by decide +kernel
theorem dX7_appeal_144 : decode cX7_appeal 144 = .ok (.invokevirtual 145, 3) := by decide +kernel
theorem dX7_appeal_147 : decode cX7_appeal 147 = .ok (.if_icmp .gt 5, 3) := by decide +kernel
theorem dX7_appeal_150 : decode cX7_appeal 150 = .ok (.iconst 0, 1) := by decide +kernel
theorem dX7_appeal_151 : decode cX7_appeal 151 = .ok (.ireturn, 1) := by decide +kernel
theorem dX7_appeal_152 : decode cX7_appeal 152 = .ok (.aload_n 0, 1) := by decide +kernel
theorem dX7_appeal_153 : decode cX7_appeal 153 = .ok (.getfield 10, 3) := by decide +kernel
theorem dX7_appeal_156 : decode cX7_appeal 156 = .ok (.iload_n 1, 1) := by decide +kernel
theorem dX7_appeal_157 : decode cX7_appeal 157 = .ok (.invokevirtual 227, 3) := by decide +kernel
theorem dX7_appeal_160 : decode cX7_appeal 160 = .ok (.iconst 1, 1) := by decide +kernel
theorem dX7_appeal_161 : decode cX7_appeal 161 = .ok (.ireturn, 1) := by decide +kernel
theorem dX7_changes_0 : decode cX7_changes 0 = .ok (.aload_n 0, 1) := by decide +kernel
theorem dX7_changes_1 : decode cX7_changes 1 = .ok (.getfield 10, 3) := by decide +kernel
theorem dX7_changes_4 : decode cX7_changes 4 = .ok (.getfield 61, 3) := by decide +kernel
theorem dX7_changes_7 : decode cX7_changes 7 = .ok (.iload_n 1, 1) := by decide +kernel
theorem dX7_changes_8 : decode cX7_changes 8 = .ok (.invokevirtual 118, 3) := by decide +kernel
theorem dX7_changes_11 : decode cX7_changes 11 = .ok (.ifCond .eq 17, 3) := by decide +kernel
theorem dX7_changes_14 : decode cX7_changes 14 = .ok (.aload_n 0, 1) := by decide +kernel
theorem dX7_changes_15 : decode cX7_changes 15 = .ok (.getfield 10, 3) := by decide +kernel
theorem dX7_changes_18 : decode cX7_changes 18 = .ok (.getfield 61, 3) := by decide +kernel
theorem dX7_changes_21 : decode cX7_changes 21 = .ok (.iload_n 1, 1) := by decide +kernel
theorem dX7_changes_22 : decode cX7_changes 22 = .ok (.invokevirtual 231, 3) := by decide +kernel
theorem dX7_changes_25 : decode cX7_changes 25 = .ok (.goto 4, 3) := by decide +kernel
theorem dX7_changes_28 : decode cX7_changes 28 = .ok (.iconst (-1), 1) := by decide +kernel
theorem dX7_changes_29 : decode cX7_changes 29 = .ok (.ireturn, 1) := by decide +kernel
theorem dX7_change_0 : decode cX7_change 0 = .ok (.aload_n 0, 1) := by decide +kernel
theorem dX7_change_1 : decode cX7_change 1 = .ok (.getfield 10, 3) := by decide +kernel
theorem dX7_change_4 : decode cX7_change 4 = .ok (.getfield 61, 3) := by decide +kernel
theorem dX7_change_7 : decode cX7_change 7 = .ok (.iload_n 1, 1) := by decide +kernel
theorem dX7_change_8 : decode cX7_change 8 = .ok (.invokevirtual 118, 3) := by decide +kernel
theorem dX7_change_11 : decode cX7_change 11 = .ok (.ifCond .eq 16, 3) := by decide +kernel
theorem dX7_change_14 : decode cX7_change 14 = .ok (.iload_n 2, 1) := by decide +kernel
theorem dX7_change_15 : decode cX7_change 15 = .ok (.ifCond .lt 12, 3) := by decide +kernel
theorem dX7_change_18 : decode cX7_change 18 = .ok (.iload_n 3, 1) := by decide +kernel
theorem dX7_change_19 : decode cX7_change 19 = .ok (.ifCond .lt 8, 3) := by decide +kernel
theorem dX7_change_22 : decode cX7_change 22 = .ok (.iload_n 3, 1) := by decide +kernel
theorem dX7_change_23 : decode cX7_change 23 = .ok (.iconst 2, 1) := by decide +kernel
theorem dX7_change_24 : decode cX7_change 24 = .ok (.if_icmp .le 5, 3) := by decide +kernel
theorem dX7_change_27 : decode cX7_change 27 = .ok (.iconst (-1), 1) := by decide +kernel
theorem dX7_change_28 : decode cX7_change 28 = .ok (.ireturn, 1) := by decide +kernel
theorem dX7_change_29 : decode cX7_change 29 = .ok (.aload_n 0, 1) := by decide +kernel
theorem dX7_change_30 : decode cX7_change 30 = .ok (.getfield 10, 3) := by decide +kernel
theorem dX7_change_33 : decode cX7_change 33 = .ok (.getfield 61, 3) := by decide +kernel
theorem dX7_change_36 : decode cX7_change 36 = .ok (.iload_n 1, 1) := by decide +kernel
theorem dX7_change_37 : decode cX7_change 37 = .ok (.iload_n 2, 1) := by decide +kernel
theorem dX7_change_38 : decode cX7_change 38 = .ok (.invokevirtual 234, 3) := by decide +kernel
theorem dX7_change_41 : decode cX7_change 41 = .ok (.istore 4, 2) := by decide +kernel
theorem dX7_change_43 : decode cX7_change 43 = .ok (.iload 4, 2) := by decide +kernel
theorem dX7_change_45 : decode cX7_change 45 = .ok (.iconst (-1), 1) := by decide +kernel
theorem dX7_change_46 : decode cX7_change 46 = .ok (.if_icmp .ne 6, 3) := by decide +kernel
theorem dX7_change_49 : decode cX7_change 49 = .ok (.bipush (-4), 2) := by decide +kernel
theorem dX7_change_51 : decode cX7_change 51 = .ok (.ireturn, 1) := by decide +kernel
theorem dX7_change_52 : decode cX7_change 52 = .ok (.iload_n 3, 1) := by decide +kernel
theorem dX7_change_53 : decode cX7_change 53 = .ok (.lookupswitch 56 #[(0, 27), (1, 41)], 27) := by decide +kernel
theorem dX7_change_80 : decode cX7_change 80 = .ok (.aload_n 0, 1) := by decide +kernel
theorem dX7_change_81 : decode cX7_change 81 = .ok (.getfield 10, 3) := by decide +kernel
theorem dX7_change_84 : decode cX7_change 84 = .ok (.getfield 61, 3) := by decide +kernel
theorem dX7_change_87 : decode cX7_change 87 = .ok (.getfield 128, 3) := by decide +kernel
theorem dX7_change_90 : decode cX7_change 90 = .ok (.iload 4, 2) := by decide +kernel
theorem dX7_change_92 : decode cX7_change 92 = .ok (.iaload, 1) := by decide +kernel
theorem dX7_change_93 : decode cX7_change 93 = .ok (.ireturn, 1) := by decide +kernel
theorem dX7_change_94 : decode cX7_change 94 = .ok (.aload_n 0, 1) := by decide +kernel
theorem dX7_change_95 : decode cX7_change 95 = .ok (.getfield 10, 3) := by decide +kernel
theorem dX7_change_98 : decode cX7_change 98 = .ok (.getfield 61, 3) := by decide +kernel
theorem dX7_change_101 : decode cX7_change 101 = .ok (.getfield 237, 3) := by decide +kernel
theorem dX7_change_104 : decode cX7_change 104 = .ok (.iload_n 1, 1) := by decide +kernel
theorem dX7_change_105 : decode cX7_change 105 = .ok (.iconst 1, 1) := by decide +kernel
theorem dX7_change_106 : decode cX7_change 106 = .ok (.isub, 1) := by decide +kernel
theorem dX7_change_107 : decode cX7_change 107 = .ok (.iaload, 1) := by decide +kernel
theorem dX7_change_108 : decode cX7_change 108 = .ok (.ireturn, 1) := by decide +kernel
theorem dX7_change_109 : decode cX7_change 109 = .ok (.aload_n 0, 1) := by decide +kernel
theorem dX7_change_110 : decode cX7_change 110 = .ok (.getfield 10, 3) := by decide +kernel
theorem dX7_change_113 : decode cX7_change 113 = .ok (.getfield 61, 3) := by decide +kernel
theorem dX7_change_116 : decode cX7_change 116 = .ok (.getfield 240, 3) := by decide +kernel
theorem dX7_change_119 : decode cX7_change 119 = .ok (.iload_n 1, 1) := by decide +kernel
theorem dX7_change_120 : decode cX7_change 120 = .ok (.iload 4, 2) := by decide +kernel
theorem dX7_change_122 : decode cX7_change 122 = .ok (.invokestatic 124, 3) := by decide +kernel
theorem dX7_change_125 : decode cX7_change 125 = .ok (.iaload, 1) := by decide +kernel
theorem dX7_change_126 : decode cX7_change 126 = .ok (.ireturn, 1) := by decide +kernel
theorem dX7_undo_0 : decode cX7_undo 0 = .ok (.aload_n 0, 1) := by decide +kernel
theorem dX7_undo_1 : decode cX7_undo 1 = .ok (.getfield 19, 3) := by decide +kernel
theorem dX7_undo_4 : decode cX7_undo 4 = .ok (.getfield 148, 3) := by decide +kernel
theorem dX7_undo_7 : decode cX7_undo 7 = .ok (.ifCond .ne 6, 3) := by decide +kernel
theorem dX7_undo_10 : decode cX7_undo 10 = .ok (.bipush (-2), 2) := by decide +kernel
theorem dX7_undo_12 : decode cX7_undo 12 = .ok (.ireturn, 1) := by decide +kernel
theorem dX7_undo_13 : decode cX7_undo 13 = .ok (.aload_n 0, 1) := by decide +kernel
theorem dX7_undo_14 : decode cX7_undo 14 = .ok (.getfield 19, 3) := by decide +kernel
theorem dX7_undo_17 : decode cX7_undo 17 = .ok (.aload_n 0, 1) := by decide +kernel
theorem dX7_undo_18 : decode cX7_undo 18 = .ok (.getfield 10, 3) := by decide +kernel
theorem dX7_undo_21 : decode cX7_undo 21 = .ok (.invokevirtual 243, 3) := by decide +kernel
theorem dX7_undo_24 : decode cX7_undo 24 = .ok (.aload_n 0, 1) := by decide +kernel
theorem dX7_undo_25 : decode cX7_undo 25 = .ok (.getfield 19, 3) := by decide +kernel
theorem dX7_undo_28 : decode cX7_undo 28 = .ok (.getfield 148, 3) := by decide +kernel
theorem dX7_undo_31 : decode cX7_undo 31 = .ok (.ireturn, 1) := by decide +kernel
theorem dX7_type_0 : decode cX7_type 0 = .ok (.iload_n 1, 1) := by decide +kernel
theorem dX7_type_1 : decode cX7_type 1 = .ok (.bipush 32, 2) := by decide +kernel
theorem dX7_type_3 : decode cX7_type 3 = .ok (.if_icmp .lt 9, 3) := by decide +kernel
theorem dX7_type_6 : decode cX7_type 6 = .ok (.iload_n 1, 1) := by decide +kernel
theorem dX7_type_7 : decode cX7_type 7 = .ok (.bipush 126, 2) := by decide +kernel
theorem dX7_type_9 : decode cX7_type 9 = .ok (.if_icmp .le 5, 3) := by decide +kernel
theorem dX7_type_12 : decode cX7_type 12 = .ok (.iconst (-1), 1) := by decide +kernel
theorem dX7_type_13 : decode cX7_type 13 = .ok (.ireturn, 1) := by decide +kernel
theorem dX7_type_14 : decode cX7_type 14 = .ok (.aload_n 0, 1) := by decide +kernel
theorem dX7_type_15 : decode cX7_type 15 = .ok (.getfield 26, 3) := by decide +kernel
theorem dX7_type_18 : decode cX7_type 18 = .ok (.getfield 149, 3) := by decide +kernel
theorem dX7_type_21 : decode cX7_type 21 = .ok (.bipush 80, 2) := by decide +kernel
theorem dX7_type_23 : decode cX7_type 23 = .ok (.if_icmp .lt 6, 3) := by decide +kernel
theorem dX7_type_26 : decode cX7_type 26 = .ok (.bipush (-3), 2) := by decide +kernel
theorem dX7_type_28 : decode cX7_type 28 = .ok (.ireturn, 1) := by decide +kernel
theorem dX7_type_29 : decode cX7_type 29 = .ok (.aload_n 0, 1) := by decide +kernel
theorem dX7_type_30 : decode cX7_type 30 = .ok (.getfield 26, 3) := by decide +kernel
theorem dX7_type_33 : decode cX7_type 33 = .ok (.iload_n 1, 1) := by decide +kernel
theorem dX7_type_34 : decode cX7_type 34 = .ok (.i2c, 1) := by decide +kernel
theorem dX7_type_35 : decode cX7_type 35 = .ok (.invokevirtual 246, 3) := by decide +kernel
theorem dX7_type_38 : decode cX7_type 38 = .ok (.aload_n 0, 1) := by decide +kernel
theorem dX7_type_39 : decode cX7_type 39 = .ok (.getfield 26, 3) := by decide +kernel
theorem dX7_type_42 : decode cX7_type 42 = .ok (.getfield 149, 3) := by decide +kernel
theorem dX7_type_45 : decode cX7_type 45 = .ok (.ireturn, 1) := by decide +kernel
theorem dX7_clearText_0 : decode cX7_clearText 0 = .ok (.aload_n 0, 1) := by decide +kernel
theorem dX7_clearText_1 : decode cX7_clearText 1 = .ok (.getfield 26, 3) := by decide +kernel
theorem dX7_clearText_4 : decode cX7_clearText 4 = .ok (.getfield 149, 3) := by decide +kernel
theorem dX7_clearText_7 : decode cX7_clearText 7 = .ok (.istore_n 1, 1) := by decide +kernel
theorem dX7_clearText_8 : decode cX7_clearText 8 = .ok (.aload_n 0, 1) := by decide +kernel
theorem dX7_clearText_9 : decode cX7_clearText 9 = .ok (.getfield 26, 3) := by decide +kernel
theorem dX7_clearText_12 : decode cX7_clearText 12 = .ok (.iconst 0, 1) := by decide +kernel
theorem dX7_clearText_13 : decode cX7_clearText 13 = .ok (.putfield 149, 3) := by decide +kernel
theorem dX7_clearText_16 : decode cX7_clearText 16 = .ok (.iload_n 1, 1) := by decide +kernel
theorem dX7_clearText_17 : decode cX7_clearText 17 = .ok (.ireturn, 1) := by decide +kernel
theorem dX7_fault_0 : decode cX7_fault 0 = .ok (.iload_n 1, 1) := by decide +kernel
theorem dX7_fault_1 : decode cX7_fault 1 = .ok (.ifCond .lt 8, 3) := by decide +kernel
theorem dX7_fault_4 : decode cX7_fault 4 = .ok (.iload_n 1, 1) := by decide +kernel
theorem dX7_fault_5 : decode cX7_fault 5 = .ok (.iconst 1, 1) := by decide +kernel
theorem dX7_fault_6 : decode cX7_fault 6 = .ok (.if_icmp .le 5, 3) := by decide +kernel
theorem dX7_fault_9 : decode cX7_fault 9 = .ok (.iconst (-1), 1) := by decide +kernel
theorem dX7_fault_10 : decode cX7_fault 10 = .ok (.ireturn, 1) := by decide +kernel
theorem dX7_fault_11 : decode cX7_fault 11 = .ok (.aload_n 0, 1) := by decide +kernel
theorem dX7_fault_12 : decode cX7_fault 12 = .ok (.invokevirtual 249, 3) := by decide +kernel
theorem dX7_fault_15 : decode cX7_fault 15 = .ok (.istore_n 2, 1) := by decide +kernel
theorem dX7_fault_16 : decode cX7_fault 16 = .ok (.iload_n 2, 1) := by decide +kernel
theorem dX7_fault_17 : decode cX7_fault 17 = .ok (.ifCond .ne 6, 3) := by decide +kernel
theorem dX7_fault_20 : decode cX7_fault 20 = .ok (.bipush (-4), 2) := by decide +kernel
theorem dX7_fault_22 : decode cX7_fault 22 = .ok (.ireturn, 1) := by decide +kernel
theorem dX7_fault_23 : decode cX7_fault 23 = .ok (.iload_n 1, 1) := by decide +kernel
theorem dX7_fault_24 : decode cX7_fault 24 = .ok (.ifCond .ne 13, 3) := by decide +kernel
theorem dX7_fault_27 : decode cX7_fault 27 = .ok (.aload_n 0, 1) := by decide +kernel
theorem dX7_fault_28 : decode cX7_fault 28 = .ok (.getfield 26, 3) := by decide +kernel
theorem dX7_fault_31 : decode cX7_fault 31 = .ok (.getfield 252, 3) := by decide +kernel
theorem dX7_fault_34 : decode cX7_fault 34 = .ok (.goto 4, 3) := by decide +kernel
theorem dX7_fault_37 : decode cX7_fault 37 = .ok (.iload_n 2, 1) := by decide +kernel
theorem dX7_fault_38 : decode cX7_fault 38 = .ok (.ireturn, 1) := by decide +kernel
theorem dX7_enter_0 : decode cX7_enter 0 = .ok (.aload_n 0, 1) := by decide +kernel
theorem dX7_enter_1 : decode cX7_enter 1 = .ok (.getfield 10, 3) := by decide +kernel
theorem dX7_enter_4 : decode cX7_enter 4 = .ok (.getfield 30, 3) := by decide +kernel
theorem dX7_enter_7 : decode cX7_enter 7 = .ok (.iload_n 1, 1) := by decide +kernel
theorem dX7_enter_8 : decode cX7_enter 8 = .ok (.invokevirtual 85, 3) := by decide +kernel
theorem dX7_enter_11 : decode cX7_enter 11 = .ok (.ifCond .ne 5, 3) := by decide +kernel
theorem dX7_enter_14 : decode cX7_enter 14 = .ok (.iconst (-1), 1) := by decide +kernel
theorem dX7_enter_15 : decode cX7_enter 15 = .ok (.ireturn, 1) := by decide +kernel
theorem dX7_enter_16 : decode cX7_enter 16 = .ok (.aload_n 0, 1) := by decide +kernel
theorem dX7_enter_17 : decode cX7_enter 17 = .ok (.getfield 10, 3) := by decide +kernel
theorem dX7_enter_20 : decode cX7_enter 20 = .ok (.getfield 52, 3) := by decide +kernel
theorem dX7_enter_23 : decode cX7_enter 23 = .ok (.getfield 136, 3) := by decide +kernel
theorem dX7_enter_26 : decode cX7_enter 26 = .ok (.ifCond .eq 10, 3) := by decide +kernel
theorem dX7_enter_29 : decode cX7_enter 29 = .ok (.aload_n 0, 1) := by decide +kernel
theorem dX7_enter_30 : decode cX7_enter 30 = .ok (.invokevirtual 249, 3) := by decide +kernel
theorem dX7_enter_33 : decode cX7_enter 33 = .ok (.ifCond .eq 6, 3) := by decide +kernel
theorem dX7_enter_36 : decode cX7_enter 36 = .ok (.bipush (-2), 2) := by decide +kernel
theorem dX7_enter_38 : decode cX7_enter 38 = .ok (.ireturn, 1) := by decide +kernel
theorem dX7_enter_39 : decode cX7_enter 39 = .ok (.aload_n 0, 1) := by decide +kernel
theorem dX7_enter_40 : decode cX7_enter 40 = .ok (.getfield 19, 3) := by decide +kernel
theorem dX7_enter_43 : decode cX7_enter 43 = .ok (.aload_n 0, 1) := by decide +kernel
theorem dX7_enter_44 : decode cX7_enter 44 = .ok (.getfield 10, 3) := by decide +kernel
theorem dX7_enter_47 : decode cX7_enter 47 = .ok (.invokevirtual 40, 3) := by decide +kernel
theorem dX7_enter_50 : decode cX7_enter 50 = .ok (.aload_n 0, 1) := by decide +kernel
theorem dX7_enter_51 : decode cX7_enter 51 = .ok (.getfield 10, 3) := by decide +kernel
theorem dX7_enter_54 : decode cX7_enter 54 = .ok (.getfield 103, 3) := by decide +kernel
theorem dX7_enter_57 : decode cX7_enter 57 = .ok (.getfield 140, 3) := by decide +kernel
theorem dX7_enter_60 : decode cX7_enter 60 = .ok (.istore_n 2, 1) := by decide +kernel
theorem dX7_enter_61 : decode cX7_enter 61 = .ok (.aload_n 0, 1) := by decide +kernel
theorem dX7_enter_62 : decode cX7_enter 62 = .ok (.getfield 26, 3) := by decide +kernel
theorem dX7_enter_65 : decode cX7_enter 65 = .ok (.invokevirtual 255, 3) := by decide +kernel
theorem dX7_enter_68 : decode cX7_enter 68 = .ok (.iload_n 2, 1) := by decide +kernel
theorem dX7_enter_69 : decode cX7_enter 69 = .ok (.istore_n 3, 1) := by decide +kernel
theorem dX7_enter_70 : decode cX7_enter 70 = .ok (.iload_n 3, 1) := by decide +kernel
theorem dX7_enter_71 : decode cX7_enter 71 = .ok (.bipush 30, 2) := by decide +kernel
theorem dX7_enter_73 : decode cX7_enter 73 = .ok (.if_icmp .ge 72, 3) := by decide +kernel
theorem dX7_enter_76 : decode cX7_enter 76 = .ok (.aload_n 0, 1) := by decide +kernel
theorem dX7_enter_77 : decode cX7_enter 77 = .ok (.getfield 26, 3) := by decide +kernel
theorem dX7_enter_80 : decode cX7_enter 80 = .ok (.invokevirtual 258, 3) := by decide +kernel
theorem dX7_enter_83 : decode cX7_enter 83 = .ok (.ifCond .eq 62, 3) := by decide +kernel
theorem dX7_enter_86 : decode cX7_enter 86 = .ok (.aload_n 0, 1) := by decide +kernel
theorem dX7_enter_87 : decode cX7_enter 87 = .ok (.getfield 10, 3) := by decide +kernel
theorem dX7_enter_90 : decode cX7_enter 90 = .ok (.getfield 61, 3) := by decide +kernel
theorem dX7_enter_93 : decode cX7_enter 93 = .ok (.aload_n 0, 1) := by decide +kernel
theorem dX7_enter_94 : decode cX7_enter 94 = .ok (.getfield 26, 3) := by decide +kernel
theorem dX7_enter_97 : decode cX7_enter 97 = .ok (.getfield 262, 3) := by decide +kernel
theorem dX7_enter_100 : decode cX7_enter 100 = .ok (.invokevirtual 65, 3) := by decide +kernel
theorem dX7_enter_103 : decode cX7_enter 103 = .ok (.istore 4, 2) := by decide +kernel
theorem dX7_enter_105 : decode cX7_enter 105 = .ok (.iload 4, 2) := by decide +kernel
theorem dX7_enter_107 : decode cX7_enter 107 = .ok (.iconst (-1), 1) := by decide +kernel
theorem dX7_enter_108 : decode cX7_enter 108 = .ok (.if_icmp .eq 31, 3) := by decide +kernel
theorem dX7_enter_111 : decode cX7_enter 111 = .ok (.aload_n 0, 1) := by decide +kernel
theorem dX7_enter_112 : decode cX7_enter 112 = .ok (.getfield 10, 3) := by decide +kernel
theorem dX7_enter_115 : decode cX7_enter 115 = .ok (.getfield 103, 3) := by decide +kernel
theorem dX7_enter_118 : decode cX7_enter 118 = .ok (.iload_n 1, 1) := by decide +kernel
theorem dX7_enter_119 : decode cX7_enter 119 = .ok (.iload 4, 2) := by decide +kernel
theorem dX7_enter_121 : decode cX7_enter 121 = .ok (.aload_n 0, 1) := by decide +kernel
theorem dX7_enter_122 : decode cX7_enter 122 = .ok (.getfield 26, 3) := by decide +kernel
theorem dX7_enter_125 : decode cX7_enter 125 = .ok (.getfield 265, 3) := by decide +kernel
theorem dX7_enter_128 : decode cX7_enter 128 = .ok (.aload_n 0, 1) := by decide +kernel
theorem dX7_enter_129 : decode cX7_enter 129 = .ok (.getfield 26, 3) := by decide +kernel
theorem dX7_enter_132 : decode cX7_enter 132 = .ok (.getfield 267, 3) := by decide +kernel
theorem dX7_enter_135 : decode cX7_enter 135 = .ok (.invokevirtual 178, 3) := by decide +kernel
theorem dX7_enter_138 : decode cX7_enter 138 = .ok (.pop, 1) := by decide +kernel
theorem dX7_enter_139 : decode cX7_enter 139 = .ok (.iinc 3 1, 3) := by decide +kernel
theorem dX7_enter_142 : decode cX7_enter 142 = .ok (.goto (-72), 3) := by decide +kernel
theorem dX7_enter_145 : decode cX7_enter 145 = .ok (.aload_n 0, 1) := by decide +kernel
theorem dX7_enter_146 : decode cX7_enter 146 = .ok (.getfield 10, 3) := by decide +kernel
theorem dX7_enter_149 : decode cX7_enter 149 = .ok (.getfield 103, 3) := by decide +kernel
theorem dX7_enter_152 : decode cX7_enter 152 = .ok (.getfield 140, 3) := by decide +kernel
theorem dX7_enter_155 : decode cX7_enter 155 = .ok (.iload_n 2, 1) := by decide +kernel
theorem dX7_enter_156 : decode cX7_enter 156 = .ok (.isub, 1) := by decide +kernel
theorem dX7_enter_157 : decode cX7_enter 157 = .ok (.ireturn, 1) := by decide +kernel
theorem dX7_firstFault_0 : decode cX7_firstFault 0 = .ok (.bipush 30, 2) := by decide +kernel
theorem dX7_firstFault_2 : decode cX7_firstFault 2 = .ok (.aload_n 0, 1) := by decide +kernel
theorem dX7_firstFault_3 : decode cX7_firstFault 3 = .ok (.getfield 10, 3) := by decide +kernel
theorem dX7_firstFault_6 : decode cX7_firstFault 6 = .ok (.getfield 103, 3) := by decide +kernel
theorem dX7_firstFault_9 : decode cX7_firstFault 9 = .ok (.getfield 140, 3) := by decide +kernel
theorem dX7_firstFault_12 : decode cX7_firstFault 12 = .ok (.isub, 1) := by decide +kernel
theorem dX7_firstFault_13 : decode cX7_firstFault 13 = .ok (.istore_n 1, 1) := by decide +kernel
theorem dX7_firstFault_14 : decode cX7_firstFault 14 = .ok (.aload_n 0, 1) := by decide +kernel
theorem dX7_firstFault_15 : decode cX7_firstFault 15 = .ok (.getfield 26, 3) := by decide +kernel
theorem dX7_firstFault_18 : decode cX7_firstFault 18 = .ok (.invokevirtual 255, 3) := by decide +kernel
theorem dX7_firstFault_21 : decode cX7_firstFault 21 = .ok (.iconst 0, 1) := by decide +kernel
theorem dX7_firstFault_22 : decode cX7_firstFault 22 = .ok (.istore_n 2, 1) := by decide +kernel
theorem dX7_firstFault_23 : decode cX7_firstFault 23 = .ok (.iload_n 2, 1) := by decide +kernel
theorem dX7_firstFault_24 : decode cX7_firstFault 24 = .ok (.bipush 80, 2) := by decide +kernel
theorem dX7_firstFault_26 : decode cX7_firstFault 26 = .ok (.if_icmp .ge 87, 3) := by decide +kernel
theorem dX7_firstFault_29 : decode cX7_firstFault 29 = .ok (.aload_n 0, 1) := by decide +kernel
theorem dX7_firstFault_30 : decode cX7_firstFault 30 = .ok (.getfield 26, 3) := by decide +kernel
theorem dX7_firstFault_33 : decode cX7_firstFault 33 = .ok (.invokevirtual 269, 3) := by decide +kernel
theorem dX7_firstFault_36 : decode cX7_firstFault 36 = .ok (.ifCond .ne 77, 3) := by decide +kernel
theorem dX7_firstFault_39 : decode cX7_firstFault 39 = .ok (.aload_n 0, 1) := by decide +kernel
theorem dX7_firstFault_40 : decode cX7_firstFault 40 = .ok (.getfield 26, 3) := by decide +kernel
theorem dX7_firstFault_43 : decode cX7_firstFault 43 = .ok (.invokevirtual 258, 3) := by decide +kernel
theorem dX7_firstFault_46 : decode cX7_firstFault 46 = .ok (.ifCond .ne 5, 3) := by decide +kernel
theorem dX7_firstFault_49 : decode cX7_firstFault 49 = .ok (.iconst 1, 1) := by decide +kernel
theorem dX7_firstFault_50 : decode cX7_firstFault 50 = .ok (.ireturn, 1) := by decide +kernel
theorem dX7_firstFault_51 : decode cX7_firstFault 51 = .ok (.aload_n 0, 1) := by decide +kernel
theorem dX7_firstFault_52 : decode cX7_firstFault 52 = .ok (.getfield 10, 3) := by decide +kernel
theorem dX7_firstFault_55 : decode cX7_firstFault 55 = .ok (.getfield 61, 3) := by decide +kernel
theorem dX7_firstFault_58 : decode cX7_firstFault 58 = .ok (.aload_n 0, 1) := by decide +kernel
theorem dX7_firstFault_59 : decode cX7_firstFault 59 = .ok (.getfield 26, 3) := by decide +kernel
theorem dX7_firstFault_62 : decode cX7_firstFault 62 = .ok (.getfield 262, 3) := by decide +kernel
theorem dX7_firstFault_65 : decode cX7_firstFault 65 = .ok (.invokevirtual 65, 3) := by decide +kernel
theorem dX7_firstFault_68 : decode cX7_firstFault 68 = .ok (.istore_n 3, 1) := by decide +kernel
theorem dX7_firstFault_69 : decode cX7_firstFault 69 = .ok (.iload_n 3, 1) := by decide +kernel
theorem dX7_firstFault_70 : decode cX7_firstFault 70 = .ok (.iconst (-1), 1) := by decide +kernel
theorem dX7_firstFault_71 : decode cX7_firstFault 71 = .ok (.if_icmp .ne 5, 3) := by decide +kernel
theorem dX7_firstFault_74 : decode cX7_firstFault 74 = .ok (.iconst 2, 1) := by decide +kernel
theorem dX7_firstFault_75 : decode cX7_firstFault 75 = .ok (.ireturn, 1) := by decide +kernel
theorem dX7_firstFault_76 : decode cX7_firstFault 76 = .ok (.aload_n 0, 1) := by decide +kernel
theorem dX7_firstFault_77 : decode cX7_firstFault 77 = .ok (.getfield 10, 3) := by decide +kernel
theorem dX7_firstFault_80 : decode cX7_firstFault 80 = .ok (.getfield 61, 3) := by decide +kernel
theorem dX7_firstFault_83 : decode cX7_firstFault 83 = .ok (.getfield 115, 3) := by decide +kernel
theorem dX7_firstFault_86 : decode cX7_firstFault 86 = .ok (.iload_n 3, 1) := by decide +kernel
theorem dX7_firstFault_87 : decode cX7_firstFault 87 = .ok (.iaload, 1) := by decide +kernel
theorem dX7_firstFault_88 : decode cX7_firstFault 88 = .ok (.aload_n 0, 1) := by decide +kernel
theorem dX7_firstFault_89 : decode cX7_firstFault 89 = .ok (.getfield 26, 3) := by decide +kernel
theorem dX7_firstFault_92 : decode cX7_firstFault 92 = .ok (.getfield 267, 3) := by decide +kernel
theorem dX7_firstFault_95 : decode cX7_firstFault 95 = .ok (.if_icmp .ne 5, 3) := by decide +kernel
theorem dX7_firstFault_98 : decode cX7_firstFault 98 = .ok (.iconst 3, 1) := by decide +kernel
theorem dX7_firstFault_99 : decode cX7_firstFault 99 = .ok (.ireturn, 1) := by decide +kernel
theorem dX7_firstFault_100 : decode cX7_firstFault 100 = .ok (.iload_n 2, 1) := by decide +kernel
theorem dX7_firstFault_101 : decode cX7_firstFault 101 = .ok (.iload_n 1, 1) := by decide +kernel
theorem dX7_firstFault_102 : decode cX7_firstFault 102 = .ok (.if_icmp .lt 5, 3) := by decide +kernel
theorem dX7_firstFault_105 : decode cX7_firstFault 105 = .ok (.iconst 4, 1) := by decide +kernel
theorem dX7_firstFault_106 : decode cX7_firstFault 106 = .ok (.ireturn, 1) := by decide +kernel
theorem dX7_firstFault_107 : decode cX7_firstFault 107 = .ok (.iinc 2 1, 3) := by decide +kernel
theorem dX7_firstFault_110 : decode cX7_firstFault 110 = .ok (.goto (-87), 3) := by decide +kernel
theorem dX7_firstFault_113 : decode cX7_firstFault 113 = .ok (.iconst 0, 1) := by decide +kernel
theorem dX7_firstFault_114 : decode cX7_firstFault 114 = .ok (.ireturn, 1) := by decide +kernel
theorem dX7_isValue_0 : decode cX7_isValue 0 = .ok (.iload_n 0, 1) := by decide +kernel
theorem dX7_isValue_1 : decode cX7_isValue 1 = .ok (.ifCond .lt 14, 3) := by decide +kernel
theorem dX7_isValue_4 : decode cX7_isValue 4 = .ok (.iload_n 0, 1) := by decide +kernel
theorem dX7_isValue_5 : decode cX7_isValue 5 = .ok (.sipush 9999, 3) := by decide +kernel
theorem dX7_isValue_8 : decode cX7_isValue 8 = .ok (.if_icmp .gt 7, 3) := by decide +kernel
theorem dX7_isValue_11 : decode cX7_isValue 11 = .ok (.iconst 1, 1) := by decide +kernel
theorem dX7_isValue_12 : decode cX7_isValue 12 = .ok (.goto 4, 3) := by decide +kernel
theorem dX7_isValue_15 : decode cX7_isValue 15 = .ok (.iconst 0, 1) := by decide +kernel
theorem dX7_isValue_16 : decode cX7_isValue 16 = .ok (.ireturn, 1) := by decide +kernel
theorem dX7_dividedUp_0 : decode cX7_dividedUp 0 = .ok (.iload_n 1, 1) := by decide +kernel
theorem dX7_dividedUp_1 : decode cX7_dividedUp 1 = .ok (.iconst 1, 1) := by decide +kernel
theorem dX7_dividedUp_2 : decode cX7_dividedUp 2 = .ok (.if_icmp .ge 7, 3) := by decide +kernel
theorem dX7_dividedUp_5 : decode cX7_dividedUp 5 = .ok (.iconst 0, 1) := by decide +kernel
theorem dX7_dividedUp_6 : decode cX7_dividedUp 6 = .ok (.goto 10, 3) := by decide +kernel
theorem dX7_dividedUp_9 : decode cX7_dividedUp 9 = .ok (.iload_n 0, 1) := by decide +kernel
theorem dX7_dividedUp_10 : decode cX7_dividedUp 10 = .ok (.iload_n 1, 1) := by decide +kernel
theorem dX7_dividedUp_11 : decode cX7_dividedUp 11 = .ok (.iadd, 1) := by decide +kernel
theorem dX7_dividedUp_12 : decode cX7_dividedUp 12 = .ok (.iconst 1, 1) := by decide +kernel
theorem dX7_dividedUp_13 : decode cX7_dividedUp 13 = .ok (.isub, 1) := by decide +kernel
theorem dX7_dividedUp_14 : decode cX7_dividedUp 14 = .ok (.iload_n 1, 1) := by decide +kernel
theorem dX7_dividedUp_15 : decode cX7_dividedUp 15 = .ok (.idiv, 1) := by decide +kernel
theorem dX7_dividedUp_16 : decode cX7_dividedUp 16 = .ok (.ireturn, 1) := by decide +kernel
theorem dX7_copyAll_0 : decode cX7_copyAll 0 = .ok (.aload_n 0, 1) := by decide +kernel
theorem dX7_copyAll_1 : decode cX7_copyAll 1 = .ok (.iconst 0, 1) := by decide +kernel
theorem dX7_copyAll_2 : decode cX7_copyAll 2 = .ok (.aload_n 1, 1) := by decide +kernel
theorem dX7_copyAll_3 : decode cX7_copyAll 3 = .ok (.iconst 0, 1) := by decide +kernel
theorem dX7_copyAll_4 : decode cX7_copyAll 4 = .ok (.aload_n 0, 1) := by decide +kernel
theorem dX7_copyAll_5 : decode cX7_copyAll 5 = .ok (.arraylength, 1) := by decide +kernel
theorem dX7_copyAll_6 : decode cX7_copyAll 6 = .ok (.aload_n 1, 1) := by decide +kernel
theorem dX7_copyAll_7 : decode cX7_copyAll 7 = .ok (.arraylength, 1) := by decide +kernel
theorem dX7_copyAll_8 : decode cX7_copyAll 8 = .ok (.invokestatic 272, 3) := by decide +kernel
theorem dX7_copyAll_11 : decode cX7_copyAll 11 = .ok (.invokestatic 275, 3) := by decide +kernel
theorem dX7_copyAll_14 : decode cX7_copyAll 14 = .ok (.return_, 1) := by decide +kernel
end
section
theorem dX8_init_0 : decode cX8_init 0 = .ok (.aload_n 0, 1) := by decide +kernel
theorem dX8_init_1 : decode cX8_init 1 = .ok (.invokespecial 1, 3) := by decide +kernel
theorem dX8_init_4 : decode cX8_init 4 = .ok (.aload_n 0, 1) := by decide +kernel
theorem dX8_init_5 : decode cX8_init 5 = .ok (.sipush 1213, 3) := by decide +kernel
theorem dX8_init_8 : decode cX8_init 8 = .ok (.newarray .int, 2) := by decide +kernel
theorem dX8_init_10 : decode cX8_init 10 = .ok (.putfield 7, 3) := by decide +kernel
theorem dX8_init_13 : decode cX8_init 13 = .ok (.aload_n 0, 1) := by decide +kernel
theorem dX8_init_14 : decode cX8_init 14 = .ok (.sipush 4852, 3) := by decide +kernel
theorem dX8_init_17 : decode cX8_init 17 = .ok (.newarray .int, 2) := by decide +kernel
theorem dX8_init_19 : decode cX8_init 19 = .ok (.putfield 13, 3) := by decide +kernel
theorem dX8_init_22 : decode cX8_init 22 = .ok (.aload_n 0, 1) := by decide +kernel
theorem dX8_init_23 : decode cX8_init 23 = .ok (.bipush 80, 2) := by decide +kernel
theorem dX8_init_25 : decode cX8_init 25 = .ok (.newarray .int, 2) := by decide +kernel
theorem dX8_init_27 : decode cX8_init 27 = .ok (.putfield 16, 3) := by decide +kernel
theorem dX8_init_30 : decode cX8_init 30 = .ok (.aload_n 0, 1) := by decide +kernel
theorem dX8_init_31 : decode cX8_init 31 = .ok (.getfield 7, 3) := by decide +kernel
theorem dX8_init_34 : decode cX8_init 34 = .ok (.iconst 2, 1) := by decide +kernel
theorem dX8_init_35 : decode cX8_init 35 = .ok (.iconst 1, 1) := by decide +kernel
theorem dX8_init_36 : decode cX8_init 36 = .ok (.iastore, 1) := by decide +kernel
theorem dX8_init_37 : decode cX8_init 37 = .ok (.aload_n 0, 1) := by decide +kernel
theorem dX8_init_38 : decode cX8_init 38 = .ok (.getfield 7, 3) := by decide +kernel
theorem dX8_init_41 : decode cX8_init 41 = .ok (.bipush 12, 2) := by decide +kernel
theorem dX8_init_43 : decode cX8_init 43 = .ok (.bipush 50, 2) := by decide +kernel
theorem dX8_init_45 : decode cX8_init 45 = .ok (.iastore, 1) := by decide +kernel
theorem dX8_init_46 : decode cX8_init 46 = .ok (.aload_n 0, 1) := by decide +kernel
theorem dX8_init_47 : decode cX8_init 47 = .ok (.getfield 7, 3) := by decide +kernel
theorem dX8_init_50 : decode cX8_init 50 = .ok (.bipush 13, 2) := by decide +kernel
theorem dX8_init_52 : decode cX8_init 52 = .ok (.bipush 67, 2) := by decide +kernel
theorem dX8_init_54 : decode cX8_init 54 = .ok (.iastore, 1) := by decide +kernel
theorem dX8_init_55 : decode cX8_init 55 = .ok (.aload_n 0, 1) := by decide +kernel
theorem dX8_init_56 : decode cX8_init 56 = .ok (.getfield 7, 3) := by decide +kernel
theorem dX8_init_59 : decode cX8_init 59 = .ok (.bipush 14, 2) := by decide +kernel
theorem dX8_init_61 : decode cX8_init 61 = .ok (.bipush 30, 2) := by decide +kernel
theorem dX8_init_63 : decode cX8_init 63 = .ok (.iastore, 1) := by decide +kernel
theorem dX8_init_64 : decode cX8_init 64 = .ok (.aload_n 0, 1) := by decide +kernel
theorem dX8_init_65 : decode cX8_init 65 = .ok (.getfield 7, 3) := by decide +kernel
theorem dX8_init_68 : decode cX8_init 68 = .ok (.bipush 15, 2) := by decide +kernel
theorem dX8_init_70 : decode cX8_init 70 = .ok (.bipush 14, 2) := by decide +kernel
theorem dX8_init_72 : decode cX8_init 72 = .ok (.iastore, 1) := by decide +kernel
theorem dX8_init_73 : decode cX8_init 73 = .ok (.aload_n 0, 1) := by decide +kernel
theorem dX8_init_74 : decode cX8_init 74 = .ok (.getfield 7, 3) := by decide +kernel
theorem dX8_init_77 : decode cX8_init 77 = .ok (.bipush 16, 2) := by decide +kernel
theorem dX8_init_79 : decode cX8_init 79 = .ok (.iconst 2, 1) := by decide +kernel
theorem dX8_init_80 : decode cX8_init 80 = .ok (.iastore, 1) := by decide +kernel
theorem dX8_init_81 : decode cX8_init 81 = .ok (.return_, 1) := by decide +kernel
theorem dX8_in_0 : decode cX8_in 0 = .ok (.iload_n 0, 1) := by decide +kernel
theorem dX8_in_1 : decode cX8_in 1 = .ok (.iload_n 1, 1) := by decide +kernel
theorem dX8_in_2 : decode cX8_in 2 = .ok (.if_icmp .lt 12, 3) := by decide +kernel
theorem dX8_in_5 : decode cX8_in 5 = .ok (.iload_n 0, 1) := by decide +kernel
theorem dX8_in_6 : decode cX8_in 6 = .ok (.iload_n 2, 1) := by decide +kernel
theorem dX8_in_7 : decode cX8_in 7 = .ok (.if_icmp .gt 7, 3) := by decide +kernel
theorem dX8_in_10 : decode cX8_in 10 = .ok (.iconst 1, 1) := by decide +kernel
theorem dX8_in_11 : decode cX8_in 11 = .ok (.goto 4, 3) := by decide +kernel
theorem dX8_in_14 : decode cX8_in 14 = .ok (.iconst 0, 1) := by decide +kernel
theorem dX8_in_15 : decode cX8_in 15 = .ok (.ireturn, 1) := by decide +kernel
theorem dX8_records_0 : decode cX8_records 0 = .ok (.aload_n 0, 1) := by decide +kernel
theorem dX8_records_1 : decode cX8_records 1 = .ok (.getfield 19, 3) := by decide +kernel
theorem dX8_records_4 : decode cX8_records 4 = .ok (.iconst 4, 1) := by decide +kernel
theorem dX8_records_5 : decode cX8_records 5 = .ok (.if_icmp .ne 44, 3) := by decide +kernel
theorem dX8_records_8 : decode cX8_records 8 = .ok (.iconst 0, 1) := by decide +kernel
theorem dX8_records_9 : decode cX8_records 9 = .ok (.istore_n 1, 1) := by decide +kernel
theorem dX8_records_10 : decode cX8_records 10 = .ok (.iload_n 1, 1) := by decide +kernel
theorem dX8_records_11 : decode cX8_records 11 = .ok (.sipush 3639, 3) := by decide +kernel
theorem dX8_records_14 : decode cX8_records 14 = .ok (.if_icmp .ge 25, 3) := by decide +kernel
theorem dX8_records_17 : decode cX8_records 17 = .ok (.aload_n 0, 1) := by decide +kernel
theorem dX8_records_18 : decode cX8_records 18 = .ok (.getfield 13, 3) := by decide +kernel
theorem dX8_records_21 : decode cX8_records 21 = .ok (.iload_n 1, 1) := by decide +kernel
theorem dX8_records_22 : decode cX8_records 22 = .ok (.aload_n 0, 1) := by decide +kernel
theorem dX8_records_23 : decode cX8_records 23 = .ok (.getfield 13, 3) := by decide +kernel
theorem dX8_records_26 : decode cX8_records 26 = .ok (.iload_n 1, 1) := by decide +kernel
theorem dX8_records_27 : decode cX8_records 27 = .ok (.sipush 1213, 3) := by decide +kernel
theorem dX8_records_30 : decode cX8_records 30 = .ok (.iadd, 1) := by decide +kernel
theorem dX8_records_31 : decode cX8_records 31 = .ok (.iaload, 1) := by decide +kernel
theorem dX8_records_32 : decode cX8_records 32 = .ok (.iastore, 1) := by decide +kernel
theorem dX8_records_33 : decode cX8_records 33 = .ok (.iinc 1 1, 3) := by decide +kernel
theorem dX8_records_36 : decode cX8_records 36 = .ok (.goto (-26), 3) := by decide +kernel
theorem dX8_records_39 : decode cX8_records 39 = .ok (.aload_n 0, 1) := by decide +kernel
theorem dX8_records_40 : decode cX8_records 40 = .ok (.dup, 1) := by decide +kernel
theorem dX8_records_41 : decode cX8_records 41 = .ok (.getfield 19, 3) := by decide +kernel
theorem dX8_records_44 : decode cX8_records 44 = .ok (.iconst 1, 1) := by decide +kernel
theorem dX8_records_45 : decode cX8_records 45 = .ok (.isub, 1) := by decide +kernel
theorem dX8_records_46 : decode cX8_records 46 = .ok (.putfield 19, 3) := by decide +kernel
theorem dX8_records_49 : decode cX8_records 49 = .ok (.iconst 0, 1) := by decide +kernel
theorem dX8_records_50 : decode cX8_records 50 = .ok (.istore_n 1, 1) := by decide +kernel
theorem dX8_records_51 : decode cX8_records 51 = .ok (.iload_n 1, 1) := by decide +kernel
theorem dX8_records_52 : decode cX8_records 52 = .ok (.sipush 1213, 3) := by decide +kernel
theorem dX8_records_55 : decode cX8_records 55 = .ok (.if_icmp .ge 30, 3) := by decide +kernel
theorem dX8_records_58 : decode cX8_records 58 = .ok (.aload_n 0, 1) := by decide +kernel
theorem dX8_records_59 : decode cX8_records 59 = .ok (.getfield 13, 3) := by decide +kernel
theorem dX8_records_62 : decode cX8_records 62 = .ok (.sipush 1213, 3) := by decide +kernel
theorem dX8_records_65 : decode cX8_records 65 = .ok (.aload_n 0, 1) := by decide +kernel
theorem dX8_records_66 : decode cX8_records 66 = .ok (.getfield 19, 3) := by decide +kernel
theorem dX8_records_69 : decode cX8_records 69 = .ok (.imul, 1) := by decide +kernel
theorem dX8_records_70 : decode cX8_records 70 = .ok (.iload_n 1, 1) := by decide +kernel
theorem dX8_records_71 : decode cX8_records 71 = .ok (.iadd, 1) := by decide +kernel
theorem dX8_records_72 : decode cX8_records 72 = .ok (.aload_n 0, 1) := by decide +kernel
theorem dX8_records_73 : decode cX8_records 73 = .ok (.getfield 7, 3) := by decide +kernel
theorem dX8_records_76 : decode cX8_records 76 = .ok (.iload_n 1, 1) := by decide +kernel
theorem dX8_records_77 : decode cX8_records 77 = .ok (.iaload, 1) := by decide +kernel
theorem dX8_records_78 : decode cX8_records 78 = .ok (.iastore, 1) := by decide +kernel
theorem dX8_records_79 : decode cX8_records 79 = .ok (.iinc 1 1, 3) := by decide +kernel
theorem dX8_records_82 : decode cX8_records 82 = .ok (.goto (-31), 3) := by decide +kernel
theorem dX8_records_85 : decode cX8_records 85 = .ok (.aload_n 0, 1) := by decide +kernel
theorem dX8_records_86 : decode cX8_records 86 = .ok (.dup, 1) := by decide +kernel
theorem dX8_records_87 : decode cX8_records 87 = .ok (.getfield 19, 3) := by decide +kernel
theorem dX8_records_90 : decode cX8_records 90 = .ok (.iconst 1, 1) := by decide +kernel
theorem dX8_records_91 : decode cX8_records 91 = .ok (.iadd, 1) := by decide +kernel
theorem dX8_records_92 : decode cX8_records 92 = .ok (.putfield 19, 3) := by decide +kernel
theorem dX8_records_95 : decode cX8_records 95 = .ok (.return_, 1) := by decide +kernel
theorem dX8_undo_0 : decode cX8_undo 0 = .ok (.aload_n 0, 1) := by decide +kernel
theorem dX8_undo_1 : decode cX8_undo 1 = .ok (.getfield 19, 3) := by decide +kernel
theorem dX8_undo_4 : decode cX8_undo 4 = .ok (.ifCond .ne 6, 3) := by decide +kernel
theorem dX8_undo_7 : decode cX8_undo 7 = .ok (.bipush (-2), 2) := by decide +kernel
theorem dX8_undo_9 : decode cX8_undo 9 = .ok (.ireturn, 1) := by decide +kernel
theorem dX8_undo_10 : decode cX8_undo 10 = .ok (.aload_n 0, 1) := by decide +kernel
theorem dX8_undo_11 : decode cX8_undo 11 = .ok (.dup, 1) := by decide +kernel
theorem dX8_undo_12 : decode cX8_undo 12 = .ok (.getfield 19, 3) := by decide +kernel
theorem dX8_undo_15 : decode cX8_undo 15 = .ok (.iconst 1, 1) := by decide +kernel
theorem dX8_undo_16 : decode cX8_undo 16 = .ok (.isub, 1) := by decide +kernel
theorem dX8_undo_17 : decode cX8_undo 17 = .ok (.putfield 19, 3) := by decide +kernel
theorem dX8_undo_20 : decode cX8_undo 20 = .ok (.iconst 0, 1) := by decide +kernel
theorem dX8_undo_21 : decode cX8_undo 21 = .ok (.istore_n 1, 1) := by decide +kernel
theorem dX8_undo_22 : decode cX8_undo 22 = .ok (.iload_n 1, 1) := by decide +kernel
theorem dX8_undo_23 : decode cX8_undo 23 = .ok (.sipush 1213, 3) := by decide +kernel
theorem dX8_undo_26 : decode cX8_undo 26 = .ok (.if_icmp .ge 30, 3) := by decide +kernel
theorem dX8_undo_29 : decode cX8_undo 29 = .ok (.aload_n 0, 1) := by decide +kernel
theorem dX8_undo_30 : decode cX8_undo 30 = .ok (.getfield 7, 3) := by decide +kernel
theorem dX8_undo_33 : decode cX8_undo 33 = .ok (.iload_n 1, 1) := by decide +kernel
theorem dX8_undo_34 : decode cX8_undo 34 = .ok (.aload_n 0, 1) := by decide +kernel
theorem dX8_undo_35 : decode cX8_undo 35 = .ok (.getfield 13, 3) := by decide +kernel
theorem dX8_undo_38 : decode cX8_undo 38 = .ok (.sipush 1213, 3) := by decide +kernel
theorem dX8_undo_41 : decode cX8_undo 41 = .ok (.aload_n 0, 1) := by decide +kernel
theorem dX8_undo_42 : decode cX8_undo 42 = .ok (.getfield 19, 3) := by decide +kernel
theorem dX8_undo_45 : decode cX8_undo 45 = .ok (.imul, 1) := by decide +kernel
theorem dX8_undo_46 : decode cX8_undo 46 = .ok (.iload_n 1, 1) := by decide +kernel
theorem dX8_undo_47 : decode cX8_undo 47 = .ok (.iadd, 1) := by decide +kernel
theorem dX8_undo_48 : decode cX8_undo 48 = .ok (.iaload, 1) := by decide +kernel
theorem dX8_undo_49 : decode cX8_undo 49 = .ok (.iastore, 1) := by decide +kernel
theorem dX8_undo_50 : decode cX8_undo 50 = .ok (.iinc 1 1, 3) := by decide +kernel
theorem dX8_undo_53 : decode cX8_undo 53 = .ok (.goto (-31), 3) := by decide +kernel
theorem dX8_undo_56 : decode cX8_undo 56 = .ok (.aload_n 0, 1) := by decide +kernel
theorem dX8_undo_57 : decode cX8_undo 57 = .ok (.getfield 19, 3) := by decide +kernel
theorem dX8_undo_60 : decode cX8_undo 60 = .ok (.ireturn, 1) := by decide +kernel
theorem dX8_isMember_0 : decode cX8_isMember 0 = .ok (.iload_n 1, 1) := by decide +kernel
theorem dX8_isMember_1 : decode cX8_isMember 1 = .ok (.iconst 0, 1) := by decide +kernel
theorem dX8_isMember_2 : decode cX8_isMember 2 = .ok (.aload_n 0, 1) := by decide +kernel
theorem dX8_isMember_3 : decode cX8_isMember 3 = .ok (.getfield 7, 3) := by decide +kernel
theorem dX8_isMember_6 : decode cX8_isMember 6 = .ok (.iconst 0, 1) := by decide +kernel
theorem dX8_isMember_7 : decode cX8_isMember 7 = .ok (.iaload, 1) := by decide +kernel
theorem dX8_isMember_8 : decode cX8_isMember 8 = .ok (.iconst 1, 1) := by decide +kernel
theorem dX8_isMember_9 : decode cX8_isMember 9 = .ok (.isub, 1) := by decide +kernel
theorem dX8_isMember_10 : decode cX8_isMember 10 = .ok (.invokestatic 23, 3) := by decide +kernel
theorem dX8_isMember_13 : decode cX8_isMember 13 = .ok (.ireturn, 1) := by decide +kernel
theorem dX8_memberAt_0 : decode cX8_memberAt 0 = .ok (.bipush 23, 2) := by decide +kernel
theorem dX8_memberAt_2 : decode cX8_memberAt 2 = .ok (.iconst 5, 1) := by decide +kernel
theorem dX8_memberAt_3 : decode cX8_memberAt 3 = .ok (.iload_n 0, 1) := by decide +kernel
theorem dX8_memberAt_4 : decode cX8_memberAt 4 = .ok (.imul, 1) := by decide +kernel
theorem dX8_memberAt_5 : decode cX8_memberAt 5 = .ok (.iadd, 1) := by decide +kernel
theorem dX8_memberAt_6 : decode cX8_memberAt 6 = .ok (.ireturn, 1) := by decide +kernel
theorem dX8_isLapsed_0 : decode cX8_isLapsed 0 = .ok (.aload_n 0, 1) := by decide +kernel
theorem dX8_isLapsed_1 : decode cX8_isLapsed 1 = .ok (.getfield 7, 3) := by decide +kernel
theorem dX8_isLapsed_4 : decode cX8_isLapsed 4 = .ok (.iload_n 1, 1) := by decide +kernel
theorem dX8_isLapsed_5 : decode cX8_isLapsed 5 = .ok (.invokestatic 27, 3) := by decide +kernel
theorem dX8_isLapsed_8 : decode cX8_isLapsed 8 = .ok (.iconst 1, 1) := by decide +kernel
theorem dX8_isLapsed_9 : decode cX8_isLapsed 9 = .ok (.iadd, 1) := by decide +kernel
theorem dX8_isLapsed_10 : decode cX8_isLapsed 10 = .ok (.iaload, 1) := by decide +kernel
theorem dX8_isLapsed_11 : decode cX8_isLapsed 11 = .ok (.aload_n 0, 1) := by decide +kernel
theorem dX8_isLapsed_12 : decode cX8_isLapsed 12 = .ok (.getfield 7, 3) := by decide +kernel
theorem dX8_isLapsed_15 : decode cX8_isLapsed 15 = .ok (.bipush 16, 2) := by decide +kernel
theorem dX8_isLapsed_17 : decode cX8_isLapsed 17 = .ok (.iaload, 1) := by decide +kernel
theorem dX8_isLapsed_18 : decode cX8_isLapsed 18 = .ok (.if_icmp .lt 7, 3) := by decide +kernel
theorem dX8_isLapsed_21 : decode cX8_isLapsed 21 = .ok (.iconst 1, 1) := by decide +kernel
theorem dX8_isLapsed_22 : decode cX8_isLapsed 22 = .ok (.goto 4, 3) := by decide +kernel
theorem dX8_isLapsed_25 : decode cX8_isLapsed 25 = .ok (.iconst 0, 1) := by decide +kernel
theorem dX8_isLapsed_26 : decode cX8_isLapsed 26 = .ok (.ireturn, 1) := by decide +kernel
theorem dX8_addMember_0 : decode cX8_addMember 0 = .ok (.iload_n 1, 1) := by decide +kernel
theorem dX8_addMember_1 : decode cX8_addMember 1 = .ok (.iconst 1, 1) := by decide +kernel
theorem dX8_addMember_2 : decode cX8_addMember 2 = .ok (.bipush 9, 2) := by decide +kernel
theorem dX8_addMember_4 : decode cX8_addMember 4 = .ok (.invokestatic 23, 3) := by decide +kernel
theorem dX8_addMember_7 : decode cX8_addMember 7 = .ok (.ifCond .ne 5, 3) := by decide +kernel
theorem dX8_addMember_10 : decode cX8_addMember 10 = .ok (.iconst (-1), 1) := by decide +kernel
theorem dX8_addMember_11 : decode cX8_addMember 11 = .ok (.ireturn, 1) := by decide +kernel
theorem dX8_addMember_12 : decode cX8_addMember 12 = .ok (.aload_n 0, 1) := by decide +kernel
theorem dX8_addMember_13 : decode cX8_addMember 13 = .ok (.getfield 7, 3) := by decide +kernel
theorem dX8_addMember_16 : decode cX8_addMember 16 = .ok (.iconst 0, 1) := by decide +kernel
theorem dX8_addMember_17 : decode cX8_addMember 17 = .ok (.iaload, 1) := by decide +kernel
theorem dX8_addMember_18 : decode cX8_addMember 18 = .ok (.bipush 10, 2) := by decide +kernel
theorem dX8_addMember_20 : decode cX8_addMember 20 = .ok (.if_icmp .ne 6, 3) := by decide +kernel
theorem dX8_addMember_23 : decode cX8_addMember 23 = .ok (.bipush (-3), 2) := by decide +kernel
theorem dX8_addMember_25 : decode cX8_addMember 25 = .ok (.ireturn, 1) := by decide +kernel
theorem dX8_addMember_26 : decode cX8_addMember 26 = .ok (.aload_n 0, 1) := by decide +kernel
theorem dX8_addMember_27 : decode cX8_addMember 27 = .ok (.invokevirtual 31, 3) := by decide +kernel
theorem dX8_addMember_30 : decode cX8_addMember 30 = .ok (.aload_n 0, 1) := by decide +kernel
theorem dX8_addMember_31 : decode cX8_addMember 31 = .ok (.getfield 7, 3) := by decide +kernel
theorem dX8_addMember_34 : decode cX8_addMember 34 = .ok (.iconst 0, 1) := by decide +kernel
theorem dX8_addMember_35 : decode cX8_addMember 35 = .ok (.iaload, 1) := by decide +kernel
theorem dX8_addMember_36 : decode cX8_addMember 36 = .ok (.invokestatic 27, 3) := by decide +kernel
theorem dX8_addMember_39 : decode cX8_addMember 39 = .ok (.istore_n 2, 1) := by decide +kernel
theorem dX8_addMember_40 : decode cX8_addMember 40 = .ok (.iconst 0, 1) := by decide +kernel
theorem dX8_addMember_41 : decode cX8_addMember 41 = .ok (.istore_n 3, 1) := by decide +kernel
theorem dX8_addMember_42 : decode cX8_addMember 42 = .ok (.iload_n 3, 1) := by decide +kernel
theorem dX8_addMember_43 : decode cX8_addMember 43 = .ok (.iconst 5, 1) := by decide +kernel
theorem dX8_addMember_44 : decode cX8_addMember 44 = .ok (.if_icmp .ge 18, 3) := by decide +kernel
theorem dX8_addMember_47 : decode cX8_addMember 47 = .ok (.aload_n 0, 1) := by decide +kernel
theorem dX8_addMember_48 : decode cX8_addMember 48 = .ok (.getfield 7, 3) := by decide +kernel
theorem dX8_addMember_51 : decode cX8_addMember 51 = .ok (.iload_n 2, 1) := by decide +kernel
theorem dX8_addMember_52 : decode cX8_addMember 52 = .ok (.iload_n 3, 1) := by decide +kernel
theorem dX8_addMember_53 : decode cX8_addMember 53 = .ok (.iadd, 1) := by decide +kernel
theorem dX8_addMember_54 : decode cX8_addMember 54 = .ok (.iconst 0, 1) := by decide +kernel
theorem dX8_addMember_55 : decode cX8_addMember 55 = .ok (.iastore, 1) := by decide +kernel
theorem dX8_addMember_56 : decode cX8_addMember 56 = .ok (.iinc 3 1, 3) := by decide +kernel
theorem dX8_addMember_59 : decode cX8_addMember 59 = .ok (.goto (-17), 3) := by decide +kernel
theorem dX8_addMember_62 : decode cX8_addMember 62 = .ok (.aload_n 0, 1) := by decide +kernel
theorem dX8_addMember_63 : decode cX8_addMember 63 = .ok (.getfield 7, 3) := by decide +kernel
theorem dX8_addMember_66 : decode cX8_addMember 66 = .ok (.iload_n 2, 1) := by decide +kernel
theorem dX8_addMember_67 : decode cX8_addMember 67 = .ok (.iconst 0, 1) := by decide +kernel
theorem dX8_addMember_68 : decode cX8_addMember 68 = .ok (.iadd, 1) := by decide +kernel
theorem dX8_addMember_69 : decode cX8_addMember 69 = .ok (.iload_n 1, 1) := by decide +kernel
theorem dX8_addMember_70 : decode cX8_addMember 70 = .ok (.iastore, 1) := by decide +kernel
theorem dX8_addMember_71 : decode cX8_addMember 71 = .ok (.aload_n 0, 1) := by decide +kernel
theorem dX8_addMember_72 : decode cX8_addMember 72 = .ok (.getfield 7, 3) := by decide +kernel
theorem dX8_addMember_75 : decode cX8_addMember 75 = .ok (.iconst 0, 1) := by decide +kernel
theorem dX8_addMember_76 : decode cX8_addMember 76 = .ok (.dup2, 1) := by decide +kernel
theorem dX8_addMember_77 : decode cX8_addMember 77 = .ok (.iaload, 1) := by decide +kernel
theorem dX8_addMember_78 : decode cX8_addMember 78 = .ok (.iconst 1, 1) := by decide +kernel
theorem dX8_addMember_79 : decode cX8_addMember 79 = .ok (.iadd, 1) := by decide +kernel
theorem dX8_addMember_80 : decode cX8_addMember 80 = .ok (.iastore, 1) := by decide +kernel
theorem dX8_addMember_81 : decode cX8_addMember 81 = .ok (.aload_n 0, 1) := by decide +kernel
theorem dX8_addMember_82 : decode cX8_addMember 82 = .ok (.getfield 7, 3) := by decide +kernel
theorem dX8_addMember_85 : decode cX8_addMember 85 = .ok (.iconst 0, 1) := by decide +kernel
theorem dX8_addMember_86 : decode cX8_addMember 86 = .ok (.iaload, 1) := by decide +kernel
theorem dX8_addMember_87 : decode cX8_addMember 87 = .ok (.iconst 1, 1) := by decide +kernel
theorem dX8_addMember_88 : decode cX8_addMember 88 = .ok (.isub, 1) := by decide +kernel
theorem dX8_addMember_89 : decode cX8_addMember 89 = .ok (.ireturn, 1) := by decide +kernel
theorem dX8_clauseAt_0 : decode cX8_clauseAt 0 = .ok (.bipush 73, 2) := by decide +kernel
theorem dX8_clauseAt_2 : decode cX8_clauseAt 2 = .ok (.bipush 45, 2) := by decide +kernel
theorem dX8_clauseAt_4 : decode cX8_clauseAt 4 = .ok (.iload_n 0, 1) := by decide +kernel
theorem dX8_clauseAt_5 : decode cX8_clauseAt 5 = .ok (.imul, 1) := by decide +kernel
theorem dX8_clauseAt_6 : decode cX8_clauseAt 6 = .ok (.iadd, 1) := by decide +kernel
theorem dX8_clauseAt_7 : decode cX8_clauseAt 7 = .ok (.ireturn, 1) := by decide +kernel
theorem dX8_indexOf_0 : decode cX8_indexOf 0 = .ok (.iconst 0, 1) := by decide +kernel
theorem dX8_indexOf_1 : decode cX8_indexOf 1 = .ok (.istore_n 2, 1) := by decide +kernel
theorem dX8_indexOf_2 : decode cX8_indexOf 2 = .ok (.iload_n 2, 1) := by decide +kernel
theorem dX8_indexOf_3 : decode cX8_indexOf 3 = .ok (.aload_n 0, 1) := by decide +kernel
theorem dX8_indexOf_4 : decode cX8_indexOf 4 = .ok (.getfield 7, 3) := by decide +kernel
theorem dX8_indexOf_7 : decode cX8_indexOf 7 = .ok (.iconst 1, 1) := by decide +kernel
theorem dX8_indexOf_8 : decode cX8_indexOf 8 = .ok (.iaload, 1) := by decide +kernel
theorem dX8_indexOf_9 : decode cX8_indexOf 9 = .ok (.if_icmp .ge 26, 3) := by decide +kernel
theorem dX8_indexOf_12 : decode cX8_indexOf 12 = .ok (.aload_n 0, 1) := by decide +kernel
theorem dX8_indexOf_13 : decode cX8_indexOf 13 = .ok (.getfield 7, 3) := by decide +kernel
theorem dX8_indexOf_16 : decode cX8_indexOf 16 = .ok (.iload_n 2, 1) := by decide +kernel
theorem dX8_indexOf_17 : decode cX8_indexOf 17 = .ok (.invokestatic 34, 3) := by decide +kernel
theorem dX8_indexOf_20 : decode cX8_indexOf 20 = .ok (.iconst 0, 1) := by decide +kernel
theorem dX8_indexOf_21 : decode cX8_indexOf 21 = .ok (.iadd, 1) := by decide +kernel
theorem dX8_indexOf_22 : decode cX8_indexOf 22 = .ok (.iaload, 1) := by decide +kernel
theorem dX8_indexOf_23 : decode cX8_indexOf 23 = .ok (.iload_n 1, 1) := by decide +kernel
theorem dX8_indexOf_24 : decode cX8_indexOf 24 = .ok (.if_icmp .ne 5, 3) := by decide +kernel
theorem dX8_indexOf_27 : decode cX8_indexOf 27 = .ok (.iload_n 2, 1) := by decide +kernel
theorem dX8_indexOf_28 : decode cX8_indexOf 28 = .ok (.ireturn, 1) := by decide +kernel
theorem dX8_indexOf_29 : decode cX8_indexOf 29 = .ok (.iinc 2 1, 3) := by decide +kernel
theorem dX8_indexOf_32 : decode cX8_indexOf 32 = .ok (.goto (-30), 3) := by decide +kernel
theorem dX8_indexOf_35 : decode cX8_indexOf 35 = .ok (.iconst (-1), 1) := by decide +kernel
theorem dX8_indexOf_36 : decode cX8_indexOf 36 = .ok (.ireturn, 1) := by decide +kernel
theorem dX8_isValue_0 : decode cX8_isValue 0 = .ok (.iload_n 0, 1) := by decide +kernel
theorem dX8_isValue_1 : decode cX8_isValue 1 = .ok (.iconst 0, 1) := by decide +kernel
theorem dX8_isValue_2 : decode cX8_isValue 2 = .ok (.sipush 9999, 3) := by decide +kernel
theorem dX8_isValue_5 : decode cX8_isValue 5 = .ok (.invokestatic 23, 3) := by decide +kernel
theorem dX8_isValue_8 : decode cX8_isValue 8 = .ok (.ireturn, 1) := by decide +kernel
theorem dX8_addClause_0 : decode cX8_addClause 0 = .ok (.iload_n 1, 1) := by decide +kernel
theorem dX8_addClause_1 : decode cX8_addClause 1 = .ok (.iconst 1, 1) := by decide +kernel
theorem dX8_addClause_2 : decode cX8_addClause 2 = .ok (.bipush 99, 2) := by decide +kernel
theorem dX8_addClause_4 : decode cX8_addClause 4 = .ok (.invokestatic 23, 3) := by decide +kernel
theorem dX8_addClause_7 : decode cX8_addClause 7 = .ok (.ifCond .eq 10, 3) := by decide +kernel
theorem dX8_addClause_10 : decode cX8_addClause 10 = .ok (.iload_n 2, 1) := by decide +kernel
theorem dX8_addClause_11 : decode cX8_addClause 11 = .ok (.invokestatic 37, 3) := by decide +kernel
theorem dX8_addClause_14 : decode cX8_addClause 14 = .ok (.ifCond .ne 5, 3) := by decide +kernel
theorem dX8_addClause_17 : decode cX8_addClause 17 = .ok (.iconst (-1), 1) := by decide +kernel
theorem dX8_addClause_18 : decode cX8_addClause 18 = .ok (.ireturn, 1) := by decide +kernel
theorem dX8_addClause_19 : decode cX8_addClause 19 = .ok (.aload_n 0, 1) := by decide +kernel
theorem dX8_addClause_20 : decode cX8_addClause 20 = .ok (.getfield 7, 3) := by decide +kernel
theorem dX8_addClause_23 : decode cX8_addClause 23 = .ok (.iconst 5, 1) := by decide +kernel
theorem dX8_addClause_24 : decode cX8_addClause 24 = .ok (.iaload, 1) := by decide +kernel
theorem dX8_addClause_25 : decode cX8_addClause 25 = .ok (.ifCond .gt 11, 3) := by decide +kernel
theorem dX8_addClause_28 : decode cX8_addClause 28 = .ok (.aload_n 0, 1) := by decide +kernel
theorem dX8_addClause_29 : decode cX8_addClause 29 = .ok (.iload_n 1, 1) := by decide +kernel
theorem dX8_addClause_30 : decode cX8_addClause 30 = .ok (.invokevirtual 41, 3) := by decide +kernel
theorem dX8_addClause_33 : decode cX8_addClause 33 = .ok (.ifCond .lt 6, 3) := by decide +kernel
theorem dX8_addClause_36 : decode cX8_addClause 36 = .ok (.bipush (-2), 2) := by decide +kernel
theorem dX8_addClause_38 : decode cX8_addClause 38 = .ok (.ireturn, 1) := by decide +kernel
theorem dX8_addClause_39 : decode cX8_addClause 39 = .ok (.aload_n 0, 1) := by decide +kernel
theorem dX8_addClause_40 : decode cX8_addClause 40 = .ok (.getfield 7, 3) := by decide +kernel
theorem dX8_addClause_43 : decode cX8_addClause 43 = .ok (.iconst 1, 1) := by decide +kernel
theorem dX8_addClause_44 : decode cX8_addClause 44 = .ok (.iaload, 1) := by decide +kernel
theorem dX8_addClause_45 : decode cX8_addClause 45 = .ok (.bipush 20, 2) := by decide +kernel
theorem dX8_addClause_47 : decode cX8_addClause 47 = .ok (.if_icmp .ne 6, 3) := by decide +kernel
theorem dX8_addClause_50 : decode cX8_addClause 50 = .ok (.bipush (-3), 2) := by decide +kernel
theorem dX8_addClause_52 : decode cX8_addClause 52 = .ok (.ireturn, 1) := by decide +kernel
theorem dX8_addClause_53 : decode cX8_addClause 53 = .ok (.aload_n 0, 1) := by decide +kernel
theorem dX8_addClause_54 : decode cX8_addClause 54 = .ok (.invokevirtual 31, 3) := by decide +kernel
theorem dX8_addClause_57 : decode cX8_addClause 57 = .ok (.aload_n 0, 1) := by decide +kernel
theorem dX8_addClause_58 : decode cX8_addClause 58 = .ok (.getfield 7, 3) := by decide +kernel
theorem dX8_addClause_61 : decode cX8_addClause 61 = .ok (.iconst 1, 1) := by decide +kernel
theorem dX8_addClause_62 : decode cX8_addClause 62 = .ok (.iaload, 1) := by decide +kernel
theorem dX8_addClause_63 : decode cX8_addClause 63 = .ok (.istore_n 3, 1) := by decide +kernel
theorem dX8_addClause_64 : decode cX8_addClause 64 = .ok (.iload_n 3, 1) := by decide +kernel
theorem dX8_addClause_65 : decode cX8_addClause 65 = .ok (.ifCond .le 68, 3) := by decide +kernel
theorem dX8_addClause_68 : decode cX8_addClause 68 = .ok (.aload_n 0, 1) := by decide +kernel
theorem dX8_addClause_69 : decode cX8_addClause 69 = .ok (.getfield 7, 3) := by decide +kernel
theorem dX8_addClause_72 : decode cX8_addClause 72 = .ok (.iload_n 3, 1) := by decide +kernel
theorem dX8_addClause_73 : decode cX8_addClause 73 = .ok (.iconst 1, 1) := by decide +kernel
theorem dX8_addClause_74 : decode cX8_addClause 74 = .ok (.isub, 1) := by decide +kernel
theorem dX8_addClause_75 : decode cX8_addClause 75 = .ok (.invokestatic 34, 3) := by decide +kernel
theorem dX8_addClause_78 : decode cX8_addClause 78 = .ok (.iconst 0, 1) := by decide +kernel
theorem dX8_addClause_79 : decode cX8_addClause 79 = .ok (.iadd, 1) := by decide +kernel
theorem dX8_addClause_80 : decode cX8_addClause 80 = .ok (.iaload, 1) := by decide +kernel
theorem dX8_addClause_81 : decode cX8_addClause 81 = .ok (.iload_n 1, 1) := by decide +kernel
theorem dX8_addClause_82 : decode cX8_addClause 82 = .ok (.if_icmp .le 51, 3) := by decide +kernel
theorem dX8_addClause_85 : decode cX8_addClause 85 = .ok (.iconst 0, 1) := by decide +kernel
theorem dX8_addClause_86 : decode cX8_addClause 86 = .ok (.istore 4, 2) := by decide +kernel
theorem dX8_addClause_88 : decode cX8_addClause 88 = .ok (.iload 4, 2) := by decide +kernel
theorem dX8_addClause_90 : decode cX8_addClause 90 = .ok (.bipush 45, 2) := by decide +kernel
theorem dX8_addClause_92 : decode cX8_addClause 92 = .ok (.if_icmp .ge 35, 3) := by decide +kernel
theorem dX8_addClause_95 : decode cX8_addClause 95 = .ok (.aload_n 0, 1) := by decide +kernel
theorem dX8_addClause_96 : decode cX8_addClause 96 = .ok (.getfield 7, 3) := by decide +kernel
theorem dX8_addClause_99 : decode cX8_addClause 99 = .ok (.iload_n 3, 1) := by decide +kernel
theorem dX8_addClause_100 : decode cX8_addClause 100 = .ok (.invokestatic 34, 3) := by decide +kernel
theorem dX8_addClause_103 : decode cX8_addClause 103 = .ok (.iload 4, 2) := by decide +kernel
theorem dX8_addClause_105 : decode cX8_addClause 105 = .ok (.iadd, 1) := by decide +kernel
theorem dX8_addClause_106 : decode cX8_addClause 106 = .ok (.aload_n 0, 1) := by decide +kernel
theorem dX8_addClause_107 : decode cX8_addClause 107 = .ok (.getfield 7, 3) := by decide +kernel
theorem dX8_addClause_110 : decode cX8_addClause 110 = .ok (.iload_n 3, 1) := by decide +kernel
theorem dX8_addClause_111 : decode cX8_addClause 111 = .ok (.iconst 1, 1) := by decide +kernel
theorem dX8_addClause_112 : decode cX8_addClause 112 = .ok (.isub, 1) := by decide +kernel
theorem dX8_addClause_113 : decode cX8_addClause 113 = .ok (.invokestatic 34, 3) := by decide +kernel
theorem dX8_addClause_116 : decode cX8_addClause 116 = .ok (.iload 4, 2) := by decide +kernel
theorem dX8_addClause_118 : decode cX8_addClause 118 = .ok (.iadd, 1) := by decide +kernel
theorem dX8_addClause_119 : decode cX8_addClause 119 = .ok (.iaload, 1) := by decide +kernel
theorem dX8_addClause_120 : decode cX8_addClause 120 = .ok (.iastore, 1) := by decide +kernel
theorem dX8_addClause_121 : decode cX8_addClause 121 = .ok (.iinc 4 1, 3) := by decide +kernel
theorem dX8_addClause_124 : decode cX8_addClause 124 = .ok (.goto (-36), 3) := by decide +kernel
theorem dX8_addClause_127 : decode cX8_addClause 127 = .ok (.iinc 3 (-1), 3) := by decide +kernel
theorem dX8_addClause_130 : decode cX8_addClause 130 = .ok (.goto (-66), 3) := by decide +kernel
theorem dX8_addClause_133 : decode cX8_addClause 133 = .ok (.iconst 0, 1) := by decide +kernel
theorem dX8_addClause_134 : decode cX8_addClause 134 = .ok (.istore 4, 2) := by decide +kernel
theorem dX8_addClause_136 : decode cX8_addClause 136 = .ok (.iload 4, 2) := by decide +kernel
theorem dX8_addClause_138 : decode cX8_addClause 138 = .ok (.bipush 45, 2) := by decide +kernel
theorem dX8_addClause_140 : decode cX8_addClause 140 = .ok (.if_icmp .ge 22, 3) := by decide +kernel
theorem dX8_addClause_143 : decode cX8_addClause 143 = .ok (.aload_n 0, 1) := by decide +kernel
theorem dX8_addClause_144 : decode cX8_addClause 144 = .ok (.getfield 7, 3) := by decide +kernel
theorem dX8_addClause_147 : decode cX8_addClause 147 = .ok (.iload_n 3, 1) := by decide +kernel
theorem dX8_addClause_148 : decode cX8_addClause 148 = .ok (.invokestatic 34, 3) := by decide +kernel
theorem dX8_addClause_151 : decode cX8_addClause 151 = .ok (.iload 4, 2) := by decide +kernel
theorem dX8_addClause_153 : decode cX8_addClause 153 = .ok (.iadd, 1) := by decide +kernel
theorem dX8_addClause_154 : decode cX8_addClause 154 = .ok (.iconst 0, 1) := by decide +kernel
theorem dX8_addClause_155 : decode cX8_addClause 155 = .ok (.iastore, 1) := by decide +kernel
theorem dX8_addClause_156 : decode cX8_addClause 156 = .ok (.iinc 4 1, 3) := by decide +kernel
theorem dX8_addClause_159 : decode cX8_addClause 159 = .ok (.goto (-23), 3) := by decide +kernel
theorem dX8_addClause_162 : decode cX8_addClause 162 = .ok (.aload_n 0, 1) := by decide +kernel
theorem dX8_addClause_163 : decode cX8_addClause 163 = .ok (.getfield 7, 3) := by decide +kernel
theorem dX8_addClause_166 : decode cX8_addClause 166 = .ok (.iload_n 3, 1) := by decide +kernel
theorem dX8_addClause_167 : decode cX8_addClause 167 = .ok (.invokestatic 34, 3) := by decide +kernel
theorem dX8_addClause_170 : decode cX8_addClause 170 = .ok (.iconst 0, 1) := by decide +kernel
theorem dX8_addClause_171 : decode cX8_addClause 171 = .ok (.iadd, 1) := by decide +kernel
theorem dX8_addClause_172 : decode cX8_addClause 172 = .ok (.iload_n 1, 1) := by decide +kernel
theorem dX8_addClause_173 : decode cX8_addClause 173 = .ok (.iastore, 1) := by decide +kernel
theorem dX8_addClause_174 : decode cX8_addClause 174 = .ok (.aload_n 0, 1) := by decide +kernel
theorem dX8_addClause_175 : decode cX8_addClause 175 = .ok (.getfield 7, 3) := by decide +kernel
theorem dX8_addClause_178 : decode cX8_addClause 178 = .ok (.iload_n 3, 1) := by decide +kernel
theorem dX8_addClause_179 : decode cX8_addClause 179 = .ok (.invokestatic 34, 3) := by decide +kernel
theorem dX8_addClause_182 : decode cX8_addClause 182 = .ok (.iconst 1, 1) := by decide +kernel
theorem dX8_addClause_183 : decode cX8_addClause 183 = .ok (.iadd, 1) := by decide +kernel
theorem dX8_addClause_184 : decode cX8_addClause 184 = .ok (.iload_n 2, 1) := by decide +kernel
theorem dX8_addClause_185 : decode cX8_addClause 185 = .ok (.iastore, 1) := by decide +kernel
theorem dX8_addClause_186 : decode cX8_addClause 186 = .ok (.aload_n 0, 1) := by decide +kernel
theorem dX8_addClause_187 : decode cX8_addClause 187 = .ok (.getfield 7, 3) := by decide +kernel
theorem dX8_addClause_190 : decode cX8_addClause 190 = .ok (.iload_n 3, 1) := by decide +kernel
theorem dX8_addClause_191 : decode cX8_addClause 191 = .ok (.invokestatic 34, 3) := by decide +kernel
theorem dX8_addClause_194 : decode cX8_addClause 194 = .ok (.iconst 3, 1) := by decide +kernel
theorem dX8_addClause_195 : decode cX8_addClause 195 = .ok (.iadd, 1) := by decide +kernel
theorem dX8_addClause_196 : decode cX8_addClause 196 = .ok (.iconst 1, 1) := by decide +kernel
theorem dX8_addClause_197 : decode cX8_addClause 197 = .ok (.iadd, 1) := by decide +kernel
theorem dX8_addClause_198 : decode cX8_addClause 198 = .ok (.iload_n 2, 1) := by decide +kernel
theorem dX8_addClause_199 : decode cX8_addClause 199 = .ok (.iastore, 1) := by decide +kernel
theorem dX8_addClause_200 : decode cX8_addClause 200 = .ok (.aload_n 0, 1) := by decide +kernel
theorem dX8_addClause_201 : decode cX8_addClause 201 = .ok (.getfield 7, 3) := by decide +kernel
theorem dX8_addClause_204 : decode cX8_addClause 204 = .ok (.iconst 1, 1) := by decide +kernel
theorem dX8_addClause_205 : decode cX8_addClause 205 = .ok (.dup2, 1) := by decide +kernel
theorem dX8_addClause_206 : decode cX8_addClause 206 = .ok (.iaload, 1) := by decide +kernel
theorem dX8_addClause_207 : decode cX8_addClause 207 = .ok (.iconst 1, 1) := by decide +kernel
theorem dX8_addClause_208 : decode cX8_addClause 208 = .ok (.iadd, 1) := by decide +kernel
theorem dX8_addClause_209 : decode cX8_addClause 209 = .ok (.iastore, 1) := by decide +kernel
theorem dX8_addClause_210 : decode cX8_addClause 210 = .ok (.aload_n 0, 1) := by decide +kernel
theorem dX8_addClause_211 : decode cX8_addClause 211 = .ok (.getfield 7, 3) := by decide +kernel
theorem dX8_addClause_214 : decode cX8_addClause 214 = .ok (.iconst 1, 1) := by decide +kernel
theorem dX8_addClause_215 : decode cX8_addClause 215 = .ok (.iaload, 1) := by decide +kernel
theorem dX8_addClause_216 : decode cX8_addClause 216 = .ok (.ireturn, 1) := by decide +kernel
theorem dX8_isSetting_0 : decode cX8_isSetting 0 = .ok (.iload_n 0, 1) := by decide +kernel
theorem dX8_isSetting_1 : decode cX8_isSetting 1 = .ok (.tableswitch 55 0 3 #[31, 31, 39, 47], 31) := by decide +kernel
theorem dX8_isSetting_32 : decode cX8_isSetting 32 = .ok (.iload_n 1, 1) := by decide +kernel
theorem dX8_isSetting_33 : decode cX8_isSetting 33 = .ok (.iconst 1, 1) := by decide +kernel
theorem dX8_isSetting_34 : decode cX8_isSetting 34 = .ok (.bipush 100, 2) := by decide +kernel
theorem dX8_isSetting_36 : decode cX8_isSetting 36 = .ok (.invokestatic 23, 3) := by decide +kernel
theorem dX8_isSetting_39 : decode cX8_isSetting 39 = .ok (.ireturn, 1) := by decide +kernel
theorem dX8_isSetting_40 : decode cX8_isSetting 40 = .ok (.iload_n 1, 1) := by decide +kernel
theorem dX8_isSetting_41 : decode cX8_isSetting 41 = .ok (.iconst 1, 1) := by decide +kernel
theorem dX8_isSetting_42 : decode cX8_isSetting 42 = .ok (.bipush 60, 2) := by decide +kernel
theorem dX8_isSetting_44 : decode cX8_isSetting 44 = .ok (.invokestatic 23, 3) := by decide +kernel
theorem dX8_isSetting_47 : decode cX8_isSetting 47 = .ok (.ireturn, 1) := by decide +kernel
theorem dX8_isSetting_48 : decode cX8_isSetting 48 = .ok (.iload_n 1, 1) := by decide +kernel
theorem dX8_isSetting_49 : decode cX8_isSetting 49 = .ok (.iconst 0, 1) := by decide +kernel
theorem dX8_isSetting_50 : decode cX8_isSetting 50 = .ok (.bipush 60, 2) := by decide +kernel
theorem dX8_isSetting_52 : decode cX8_isSetting 52 = .ok (.invokestatic 23, 3) := by decide +kernel
theorem dX8_isSetting_55 : decode cX8_isSetting 55 = .ok (.ireturn, 1) := by decide +kernel
theorem dX8_isSetting_56 : decode cX8_isSetting 56 = .ok (.iload_n 0, 1) := by decide +kernel
theorem dX8_isSetting_57 : decode cX8_isSetting 57 = .ok (.iconst 4, 1) := by decide +kernel
theorem dX8_isSetting_58 : decode cX8_isSetting 58 = .ok (.if_icmp .ne 16, 3) := by decide +kernel
theorem dX8_isSetting_61 : decode cX8_isSetting 61 = .ok (.iload_n 1, 1) := by decide +kernel
theorem dX8_isSetting_62 : decode cX8_isSetting 62 = .ok (.iconst 1, 1) := by decide +kernel
theorem dX8_isSetting_63 : decode cX8_isSetting 63 = .ok (.iconst 5, 1) := by decide +kernel
theorem dX8_isSetting_64 : decode cX8_isSetting 64 = .ok (.invokestatic 23, 3) := by decide +kernel
theorem dX8_isSetting_67 : decode cX8_isSetting 67 = .ok (.ifCond .eq 7, 3) := by decide +kernel
theorem dX8_isSetting_70 : decode cX8_isSetting 70 = .ok (.iconst 1, 1) := by decide +kernel
theorem dX8_isSetting_71 : decode cX8_isSetting 71 = .ok (.goto 4, 3) := by decide +kernel
theorem dX8_isSetting_74 : decode cX8_isSetting 74 = .ok (.iconst 0, 1) := by decide +kernel
theorem dX8_isSetting_75 : decode cX8_isSetting 75 = .ok (.ireturn, 1) := by decide +kernel
theorem dX8_set_0 : decode cX8_set 0 = .ok (.iload_n 1, 1) := by decide +kernel
theorem dX8_set_1 : decode cX8_set 1 = .ok (.iload_n 2, 1) := by decide +kernel
theorem dX8_set_2 : decode cX8_set 2 = .ok (.invokestatic 44, 3) := by decide +kernel
theorem dX8_set_5 : decode cX8_set 5 = .ok (.ifCond .ne 5, 3) := by decide +kernel
theorem dX8_set_8 : decode cX8_set 8 = .ok (.iconst (-1), 1) := by decide +kernel
theorem dX8_set_9 : decode cX8_set 9 = .ok (.ireturn, 1) := by decide +kernel
theorem dX8_set_10 : decode cX8_set 10 = .ok (.aload_n 0, 1) := by decide +kernel
theorem dX8_set_11 : decode cX8_set 11 = .ok (.invokevirtual 31, 3) := by decide +kernel
theorem dX8_set_14 : decode cX8_set 14 = .ok (.aload_n 0, 1) := by decide +kernel
theorem dX8_set_15 : decode cX8_set 15 = .ok (.getfield 7, 3) := by decide +kernel
theorem dX8_set_18 : decode cX8_set 18 = .ok (.bipush 12, 2) := by decide +kernel
theorem dX8_set_20 : decode cX8_set 20 = .ok (.iload_n 1, 1) := by decide +kernel
theorem dX8_set_21 : decode cX8_set 21 = .ok (.iadd, 1) := by decide +kernel
theorem dX8_set_22 : decode cX8_set 22 = .ok (.iaload, 1) := by decide +kernel
theorem dX8_set_23 : decode cX8_set 23 = .ok (.istore_n 3, 1) := by decide +kernel
theorem dX8_set_24 : decode cX8_set 24 = .ok (.aload_n 0, 1) := by decide +kernel
theorem dX8_set_25 : decode cX8_set 25 = .ok (.getfield 7, 3) := by decide +kernel
theorem dX8_set_28 : decode cX8_set 28 = .ok (.bipush 12, 2) := by decide +kernel
theorem dX8_set_30 : decode cX8_set 30 = .ok (.iload_n 1, 1) := by decide +kernel
theorem dX8_set_31 : decode cX8_set 31 = .ok (.iadd, 1) := by decide +kernel
theorem dX8_set_32 : decode cX8_set 32 = .ok (.iload_n 2, 1) := by decide +kernel
theorem dX8_set_33 : decode cX8_set 33 = .ok (.iastore, 1) := by decide +kernel
theorem dX8_set_34 : decode cX8_set 34 = .ok (.iload_n 3, 1) := by decide +kernel
theorem dX8_set_35 : decode cX8_set 35 = .ok (.ireturn, 1) := by decide +kernel
theorem dX8_commentsOf_0 : decode cX8_commentsOf 0 = .ok (.iconst 0, 1) := by decide +kernel
theorem dX8_commentsOf_1 : decode cX8_commentsOf 1 = .ok (.istore_n 2, 1) := by decide +kernel
theorem dX8_commentsOf_2 : decode cX8_commentsOf 2 = .ok (.iconst 0, 1) := by decide +kernel
theorem dX8_commentsOf_3 : decode cX8_commentsOf 3 = .ok (.istore_n 3, 1) := by decide +kernel
theorem dX8_commentsOf_4 : decode cX8_commentsOf 4 = .ok (.iload_n 3, 1) := by decide +kernel
theorem dX8_commentsOf_5 : decode cX8_commentsOf 5 = .ok (.aload_n 0, 1) := by decide +kernel
theorem dX8_commentsOf_6 : decode cX8_commentsOf 6 = .ok (.getfield 7, 3) := by decide +kernel
theorem dX8_commentsOf_9 : decode cX8_commentsOf 9 = .ok (.bipush 9, 2) := by decide +kernel
theorem dX8_commentsOf_11 : decode cX8_commentsOf 11 = .ok (.iaload, 1) := by decide +kernel
theorem dX8_commentsOf_12 : decode cX8_commentsOf 12 = .ok (.if_icmp .ge 32, 3) := by decide +kernel
theorem dX8_commentsOf_15 : decode cX8_commentsOf 15 = .ok (.iload_n 2, 1) := by decide +kernel
theorem dX8_commentsOf_16 : decode cX8_commentsOf 16 = .ok (.aload_n 0, 1) := by decide +kernel
theorem dX8_commentsOf_17 : decode cX8_commentsOf 17 = .ok (.getfield 7, 3) := by decide +kernel
theorem dX8_commentsOf_20 : decode cX8_commentsOf 20 = .ok (.iload_n 3, 1) := by decide +kernel
theorem dX8_commentsOf_21 : decode cX8_commentsOf 21 = .ok (.invokestatic 48, 3) := by decide +kernel
theorem dX8_commentsOf_24 : decode cX8_commentsOf 24 = .ok (.iconst 0, 1) := by decide +kernel
theorem dX8_commentsOf_25 : decode cX8_commentsOf 25 = .ok (.iadd, 1) := by decide +kernel
theorem dX8_commentsOf_26 : decode cX8_commentsOf 26 = .ok (.iaload, 1) := by decide +kernel
theorem dX8_commentsOf_27 : decode cX8_commentsOf 27 = .ok (.iload_n 1, 1) := by decide +kernel
theorem dX8_commentsOf_28 : decode cX8_commentsOf 28 = .ok (.if_icmp .ne 7, 3) := by decide +kernel
theorem dX8_commentsOf_31 : decode cX8_commentsOf 31 = .ok (.iconst 1, 1) := by decide +kernel
theorem dX8_commentsOf_32 : decode cX8_commentsOf 32 = .ok (.goto 4, 3) := by decide +kernel
theorem dX8_commentsOf_35 : decode cX8_commentsOf 35 = .ok (.iconst 0, 1) := by decide +kernel
theorem dX8_commentsOf_36 : decode cX8_commentsOf 36 = .ok (.iadd, 1) := by decide +kernel
theorem dX8_commentsOf_37 : decode cX8_commentsOf 37 = .ok (.istore_n 2, 1) := by decide +kernel
theorem dX8_commentsOf_38 : decode cX8_commentsOf 38 = .ok (.iinc 3 1, 3) := by decide +kernel
theorem dX8_commentsOf_41 : decode cX8_commentsOf 41 = .ok (.goto (-37), 3) := by decide +kernel
theorem dX8_commentsOf_44 : decode cX8_commentsOf 44 = .ok (.iload_n 2, 1) := by decide +kernel
theorem dX8_commentsOf_45 : decode cX8_commentsOf 45 = .ok (.ireturn, 1) := by decide +kernel
theorem dX8_member_0 : decode cX8_member 0 = .ok (.aload_n 0, 1) := by decide +kernel
theorem dX8_member_1 : decode cX8_member 1 = .ok (.iload_n 1, 1) := by decide +kernel
theorem dX8_member_2 : decode cX8_member 2 = .ok (.invokevirtual 51, 3) := by decide +kernel
theorem dX8_member_5 : decode cX8_member 5 = .ok (.ifCond .eq 12, 3) := by decide +kernel
theorem dX8_member_8 : decode cX8_member 8 = .ok (.iload_n 2, 1) := by decide +kernel
theorem dX8_member_9 : decode cX8_member 9 = .ok (.iconst 0, 1) := by decide +kernel
theorem dX8_member_10 : decode cX8_member 10 = .ok (.iconst 5, 1) := by decide +kernel
theorem dX8_member_11 : decode cX8_member 11 = .ok (.invokestatic 23, 3) := by decide +kernel
theorem dX8_member_14 : decode cX8_member 14 = .ok (.ifCond .ne 5, 3) := by decide +kernel
theorem dX8_member_17 : decode cX8_member 17 = .ok (.iconst (-1), 1) := by decide +kernel
theorem dX8_member_18 : decode cX8_member 18 = .ok (.ireturn, 1) := by decide +kernel
theorem dX8_member_19 : decode cX8_member 19 = .ok (.iload_n 1, 1) := by decide +kernel
theorem dX8_member_20 : decode cX8_member 20 = .ok (.invokestatic 27, 3) := by decide +kernel
theorem dX8_member_23 : decode cX8_member 23 = .ok (.istore_n 3, 1) := by decide +kernel
theorem dX8_member_24 : decode cX8_member 24 = .ok (.iload_n 2, 1) := by decide +kernel
theorem dX8_member_25 : decode cX8_member 25 = .ok (.tableswitch 87 2 5 #[31, 45, 72, 78], 31) := by decide +kernel
theorem dX8_member_56 : decode cX8_member 56 = .ok (.aload_n 0, 1) := by decide +kernel
theorem dX8_member_57 : decode cX8_member 57 = .ok (.iload_n 1, 1) := by decide +kernel
theorem dX8_member_58 : decode cX8_member 58 = .ok (.invokevirtual 54, 3) := by decide +kernel
theorem dX8_member_61 : decode cX8_member 61 = .ok (.ifCond .eq 7, 3) := by decide +kernel
theorem dX8_member_64 : decode cX8_member 64 = .ok (.iconst 1, 1) := by decide +kernel
theorem dX8_member_65 : decode cX8_member 65 = .ok (.goto 4, 3) := by decide +kernel
theorem dX8_member_68 : decode cX8_member 68 = .ok (.iconst 0, 1) := by decide +kernel
theorem dX8_member_69 : decode cX8_member 69 = .ok (.ireturn, 1) := by decide +kernel
theorem dX8_member_70 : decode cX8_member 70 = .ok (.aload_n 0, 1) := by decide +kernel
theorem dX8_member_71 : decode cX8_member 71 = .ok (.getfield 7, 3) := by decide +kernel
theorem dX8_member_74 : decode cX8_member 74 = .ok (.iload_n 3, 1) := by decide +kernel
theorem dX8_member_75 : decode cX8_member 75 = .ok (.iconst 2, 1) := by decide +kernel
theorem dX8_member_76 : decode cX8_member 76 = .ok (.iadd, 1) := by decide +kernel
theorem dX8_member_77 : decode cX8_member 77 = .ok (.iaload, 1) := by decide +kernel
theorem dX8_member_78 : decode cX8_member 78 = .ok (.ifCond .ne 8, 3) := by decide +kernel
theorem dX8_member_81 : decode cX8_member 81 = .ok (.bipush (-4), 2) := by decide +kernel
theorem dX8_member_83 : decode cX8_member 83 = .ok (.goto 13, 3) := by decide +kernel
theorem dX8_member_86 : decode cX8_member 86 = .ok (.aload_n 0, 1) := by decide +kernel
theorem dX8_member_87 : decode cX8_member 87 = .ok (.getfield 7, 3) := by decide +kernel
theorem dX8_member_90 : decode cX8_member 90 = .ok (.iload_n 3, 1) := by decide +kernel
theorem dX8_member_91 : decode cX8_member 91 = .ok (.iconst 2, 1) := by decide +kernel
theorem dX8_member_92 : decode cX8_member 92 = .ok (.iadd, 1) := by decide +kernel
theorem dX8_member_93 : decode cX8_member 93 = .ok (.iaload, 1) := by decide +kernel
theorem dX8_member_94 : decode cX8_member 94 = .ok (.iconst 1, 1) := by decide +kernel
theorem dX8_member_95 : decode cX8_member 95 = .ok (.isub, 1) := by decide +kernel
theorem dX8_member_96 : decode cX8_member 96 = .ok (.ireturn, 1) := by decide +kernel
theorem dX8_member_97 : decode cX8_member 97 = .ok (.aload_n 0, 1) := by decide +kernel
theorem dX8_member_98 : decode cX8_member 98 = .ok (.iload_n 1, 1) := by decide +kernel
theorem dX8_member_99 : decode cX8_member 99 = .ok (.invokevirtual 57, 3) := by decide +kernel
theorem dX8_member_102 : decode cX8_member 102 = .ok (.ireturn, 1) := by decide +kernel
theorem dX8_member_103 : decode cX8_member 103 = .ok (.aload_n 0, 1) := by decide +kernel
theorem dX8_member_104 : decode cX8_member 104 = .ok (.getfield 7, 3) := by decide +kernel
theorem dX8_member_107 : decode cX8_member 107 = .ok (.iload_n 3, 1) := by decide +kernel
theorem dX8_member_108 : decode cX8_member 108 = .ok (.iconst 3, 1) := by decide +kernel
theorem dX8_member_109 : decode cX8_member 109 = .ok (.iadd, 1) := by decide +kernel
theorem dX8_member_110 : decode cX8_member 110 = .ok (.iaload, 1) := by decide +kernel
theorem dX8_member_111 : decode cX8_member 111 = .ok (.ireturn, 1) := by decide +kernel
theorem dX8_member_112 : decode cX8_member 112 = .ok (.aload_n 0, 1) := by decide +kernel
theorem dX8_member_113 : decode cX8_member 113 = .ok (.getfield 7, 3) := by decide +kernel
theorem dX8_member_116 : decode cX8_member 116 = .ok (.iload_n 3, 1) := by decide +kernel
theorem dX8_member_117 : decode cX8_member 117 = .ok (.iload_n 2, 1) := by decide +kernel
theorem dX8_member_118 : decode cX8_member 118 = .ok (.iadd, 1) := by decide +kernel
theorem dX8_member_119 : decode cX8_member 119 = .ok (.iaload, 1) := by decide +kernel
theorem dX8_member_120 : decode cX8_member 120 = .ok (.ireturn, 1) := by decide +kernel
theorem dX8_value_0 : decode cX8_value 0 = .ok (.aload_n 0, 1) := by decide +kernel
theorem dX8_value_1 : decode cX8_value 1 = .ok (.iload_n 1, 1) := by decide +kernel
theorem dX8_value_2 : decode cX8_value 2 = .ok (.invokevirtual 41, 3) := by decide +kernel
theorem dX8_value_5 : decode cX8_value 5 = .ok (.istore_n 2, 1) := by decide +kernel
theorem dX8_value_6 : decode cX8_value 6 = .ok (.iload_n 2, 1) := by decide +kernel
theorem dX8_value_7 : decode cX8_value 7 = .ok (.ifCond .ge 7, 3) := by decide +kernel
theorem dX8_value_10 : decode cX8_value 10 = .ok (.iconst (-1), 1) := by decide +kernel
theorem dX8_value_11 : decode cX8_value 11 = .ok (.goto 14, 3) := by decide +kernel
theorem dX8_value_14 : decode cX8_value 14 = .ok (.aload_n 0, 1) := by decide +kernel
theorem dX8_value_15 : decode cX8_value 15 = .ok (.getfield 7, 3) := by decide +kernel
theorem dX8_value_18 : decode cX8_value 18 = .ok (.iload_n 2, 1) := by decide +kernel
theorem dX8_value_19 : decode cX8_value 19 = .ok (.invokestatic 34, 3) := by decide +kernel
theorem dX8_value_22 : decode cX8_value 22 = .ok (.iconst 1, 1) := by decide +kernel
theorem dX8_value_23 : decode cX8_value 23 = .ok (.iadd, 1) := by decide +kernel
theorem dX8_value_24 : decode cX8_value 24 = .ok (.iaload, 1) := by decide +kernel
theorem dX8_value_25 : decode cX8_value 25 = .ok (.ireturn, 1) := by decide +kernel
theorem dX8_isEdition_0 : decode cX8_isEdition 0 = .ok (.iload_n 1, 1) := by decide +kernel
theorem dX8_isEdition_1 : decode cX8_isEdition 1 = .ok (.iconst 1, 1) := by decide +kernel
theorem dX8_isEdition_2 : decode cX8_isEdition 2 = .ok (.aload_n 0, 1) := by decide +kernel
theorem dX8_isEdition_3 : decode cX8_isEdition 3 = .ok (.getfield 7, 3) := by decide +kernel
theorem dX8_isEdition_6 : decode cX8_isEdition 6 = .ok (.iconst 2, 1) := by decide +kernel
theorem dX8_isEdition_7 : decode cX8_isEdition 7 = .ok (.iaload, 1) := by decide +kernel
theorem dX8_isEdition_8 : decode cX8_isEdition 8 = .ok (.invokestatic 23, 3) := by decide +kernel
theorem dX8_isEdition_11 : decode cX8_isEdition 11 = .ok (.ireturn, 1) := by decide +kernel
theorem dX8_valueIn_0 : decode cX8_valueIn 0 = .ok (.aload_n 0, 1) := by decide +kernel
theorem dX8_valueIn_1 : decode cX8_valueIn 1 = .ok (.iload_n 1, 1) := by decide +kernel
theorem dX8_valueIn_2 : decode cX8_valueIn 2 = .ok (.invokevirtual 41, 3) := by decide +kernel
theorem dX8_valueIn_5 : decode cX8_valueIn 5 = .ok (.istore_n 3, 1) := by decide +kernel
theorem dX8_valueIn_6 : decode cX8_valueIn 6 = .ok (.iload_n 3, 1) := by decide +kernel
theorem dX8_valueIn_7 : decode cX8_valueIn 7 = .ok (.ifCond .lt 11, 3) := by decide +kernel
theorem dX8_valueIn_10 : decode cX8_valueIn 10 = .ok (.aload_n 0, 1) := by decide +kernel
theorem dX8_valueIn_11 : decode cX8_valueIn 11 = .ok (.iload_n 2, 1) := by decide +kernel
theorem dX8_valueIn_12 : decode cX8_valueIn 12 = .ok (.invokevirtual 60, 3) := by decide +kernel
theorem dX8_valueIn_15 : decode cX8_valueIn 15 = .ok (.ifCond .ne 7, 3) := by decide +kernel
theorem dX8_valueIn_18 : decode cX8_valueIn 18 = .ok (.iconst (-1), 1) := by decide +kernel
theorem dX8_valueIn_19 : decode cX8_valueIn 19 = .ok (.goto 16, 3) := by decide +kernel
theorem dX8_valueIn_22 : decode cX8_valueIn 22 = .ok (.aload_n 0, 1) := by decide +kernel
theorem dX8_valueIn_23 : decode cX8_valueIn 23 = .ok (.getfield 7, 3) := by decide +kernel
theorem dX8_valueIn_26 : decode cX8_valueIn 26 = .ok (.iload_n 3, 1) := by decide +kernel
theorem dX8_valueIn_27 : decode cX8_valueIn 27 = .ok (.invokestatic 34, 3) := by decide +kernel
theorem dX8_valueIn_30 : decode cX8_valueIn 30 = .ok (.iconst 3, 1) := by decide +kernel
theorem dX8_valueIn_31 : decode cX8_valueIn 31 = .ok (.iadd, 1) := by decide +kernel
theorem dX8_valueIn_32 : decode cX8_valueIn 32 = .ok (.iload_n 2, 1) := by decide +kernel
theorem dX8_valueIn_33 : decode cX8_valueIn 33 = .ok (.iadd, 1) := by decide +kernel
theorem dX8_valueIn_34 : decode cX8_valueIn 34 = .ok (.iaload, 1) := by decide +kernel
theorem dX8_valueIn_35 : decode cX8_valueIn 35 = .ok (.ireturn, 1) := by decide +kernel
theorem dX8_clause_0 : decode cX8_clause 0 = .ok (.iload_n 1, 1) := by decide +kernel
theorem dX8_clause_1 : decode cX8_clause 1 = .ok (.ifCond .ge 7, 3) := by decide +kernel
theorem dX8_clause_4 : decode cX8_clause 4 = .ok (.iconst (-1), 1) := by decide +kernel
theorem dX8_clause_5 : decode cX8_clause 5 = .ok (.goto 29, 3) := by decide +kernel
theorem dX8_clause_8 : decode cX8_clause 8 = .ok (.iload_n 1, 1) := by decide +kernel
theorem dX8_clause_9 : decode cX8_clause 9 = .ok (.aload_n 0, 1) := by decide +kernel
theorem dX8_clause_10 : decode cX8_clause 10 = .ok (.getfield 7, 3) := by decide +kernel
theorem dX8_clause_13 : decode cX8_clause 13 = .ok (.iconst 1, 1) := by decide +kernel
theorem dX8_clause_14 : decode cX8_clause 14 = .ok (.iaload, 1) := by decide +kernel
theorem dX8_clause_15 : decode cX8_clause 15 = .ok (.if_icmp .lt 8, 3) := by decide +kernel
theorem dX8_clause_18 : decode cX8_clause 18 = .ok (.bipush (-4), 2) := by decide +kernel
theorem dX8_clause_20 : decode cX8_clause 20 = .ok (.goto 14, 3) := by decide +kernel
theorem dX8_clause_23 : decode cX8_clause 23 = .ok (.aload_n 0, 1) := by decide +kernel
theorem dX8_clause_24 : decode cX8_clause 24 = .ok (.getfield 7, 3) := by decide +kernel
theorem dX8_clause_27 : decode cX8_clause 27 = .ok (.iload_n 1, 1) := by decide +kernel
theorem dX8_clause_28 : decode cX8_clause 28 = .ok (.invokestatic 34, 3) := by decide +kernel
theorem dX8_clause_31 : decode cX8_clause 31 = .ok (.iconst 0, 1) := by decide +kernel
theorem dX8_clause_32 : decode cX8_clause 32 = .ok (.iadd, 1) := by decide +kernel
theorem dX8_clause_33 : decode cX8_clause 33 = .ok (.iaload, 1) := by decide +kernel
theorem dX8_clause_34 : decode cX8_clause 34 = .ok (.ireturn, 1) := by decide +kernel
theorem dX8_activeWeight_0 : decode cX8_activeWeight 0 = .ok (.iconst 0, 1) := by decide +kernel
theorem dX8_activeWeight_1 : decode cX8_activeWeight 1 = .ok (.istore_n 1, 1) := by decide +kernel
theorem dX8_activeWeight_2 : decode cX8_activeWeight 2 = .ok (.iconst 0, 1) := by decide +kernel
theorem dX8_activeWeight_3 : decode cX8_activeWeight 3 = .ok (.istore_n 2, 1) := by decide +kernel
theorem dX8_activeWeight_4 : decode cX8_activeWeight 4 = .ok (.iload_n 2, 1) := by decide +kernel
theorem dX8_activeWeight_5 : decode cX8_activeWeight 5 = .ok (.aload_n 0, 1) := by decide +kernel
theorem dX8_activeWeight_6 : decode cX8_activeWeight 6 = .ok (.getfield 7, 3) := by decide +kernel
theorem dX8_activeWeight_9 : decode cX8_activeWeight 9 = .ok (.iconst 0, 1) := by decide +kernel
theorem dX8_activeWeight_10 : decode cX8_activeWeight 10 = .ok (.iaload, 1) := by decide +kernel
theorem dX8_activeWeight_11 : decode cX8_activeWeight 11 = .ok (.if_icmp .ge 35, 3) := by decide +kernel
theorem dX8_activeWeight_14 : decode cX8_activeWeight 14 = .ok (.iload_n 1, 1) := by decide +kernel
theorem dX8_activeWeight_15 : decode cX8_activeWeight 15 = .ok (.aload_n 0, 1) := by decide +kernel
theorem dX8_activeWeight_16 : decode cX8_activeWeight 16 = .ok (.iload_n 2, 1) := by decide +kernel
theorem dX8_activeWeight_17 : decode cX8_activeWeight 17 = .ok (.invokevirtual 54, 3) := by decide +kernel
theorem dX8_activeWeight_20 : decode cX8_activeWeight 20 = .ok (.ifCond .eq 7, 3) := by decide +kernel
theorem dX8_activeWeight_23 : decode cX8_activeWeight 23 = .ok (.iconst 0, 1) := by decide +kernel
theorem dX8_activeWeight_24 : decode cX8_activeWeight 24 = .ok (.goto 14, 3) := by decide +kernel
theorem dX8_activeWeight_27 : decode cX8_activeWeight 27 = .ok (.aload_n 0, 1) := by decide +kernel
theorem dX8_activeWeight_28 : decode cX8_activeWeight 28 = .ok (.getfield 7, 3) := by decide +kernel
theorem dX8_activeWeight_31 : decode cX8_activeWeight 31 = .ok (.iload_n 2, 1) := by decide +kernel
theorem dX8_activeWeight_32 : decode cX8_activeWeight 32 = .ok (.invokestatic 27, 3) := by decide +kernel
theorem dX8_activeWeight_35 : decode cX8_activeWeight 35 = .ok (.iconst 0, 1) := by decide +kernel
theorem dX8_activeWeight_36 : decode cX8_activeWeight 36 = .ok (.iadd, 1) := by decide +kernel
theorem dX8_activeWeight_37 : decode cX8_activeWeight 37 = .ok (.iaload, 1) := by decide +kernel
theorem dX8_activeWeight_38 : decode cX8_activeWeight 38 = .ok (.iadd, 1) := by decide +kernel
theorem dX8_activeWeight_39 : decode cX8_activeWeight 39 = .ok (.istore_n 1, 1) := by decide +kernel
theorem dX8_activeWeight_40 : decode cX8_activeWeight 40 = .ok (.iinc 2 1, 3) := by decide +kernel
theorem dX8_activeWeight_43 : decode cX8_activeWeight 43 = .ok (.goto (-39), 3) := by decide +kernel
theorem dX8_activeWeight_46 : decode cX8_activeWeight 46 = .ok (.iload_n 1, 1) := by decide +kernel
theorem dX8_activeWeight_47 : decode cX8_activeWeight 47 = .ok (.ireturn, 1) := by decide +kernel
theorem dX8_pending_0 : decode cX8_pending 0 = .ok (.iconst 0, 1) := by decide +kernel
theorem dX8_pending_1 : decode cX8_pending 1 = .ok (.istore_n 1, 1) := by decide +kernel
theorem dX8_pending_2 : decode cX8_pending 2 = .ok (.iconst 0, 1) := by decide +kernel
theorem dX8_pending_3 : decode cX8_pending 3 = .ok (.istore_n 2, 1) := by decide +kernel
theorem dX8_pending_4 : decode cX8_pending 4 = .ok (.iload_n 2, 1) := by decide +kernel
theorem dX8_pending_5 : decode cX8_pending 5 = .ok (.aload_n 0, 1) := by decide +kernel
theorem dX8_pending_6 : decode cX8_pending 6 = .ok (.getfield 7, 3) := by decide +kernel
theorem dX8_pending_9 : decode cX8_pending 9 = .ok (.bipush 9, 2) := by decide +kernel
theorem dX8_pending_11 : decode cX8_pending 11 = .ok (.iaload, 1) := by decide +kernel
theorem dX8_pending_12 : decode cX8_pending 12 = .ok (.if_icmp .ge 32, 3) := by decide +kernel
theorem dX8_pending_15 : decode cX8_pending 15 = .ok (.iload_n 1, 1) := by decide +kernel
theorem dX8_pending_16 : decode cX8_pending 16 = .ok (.aload_n 0, 1) := by decide +kernel
theorem dX8_pending_17 : decode cX8_pending 17 = .ok (.getfield 7, 3) := by decide +kernel
theorem dX8_pending_20 : decode cX8_pending 20 = .ok (.iload_n 2, 1) := by decide +kernel
theorem dX8_pending_21 : decode cX8_pending 21 = .ok (.invokestatic 48, 3) := by decide +kernel
theorem dX8_pending_24 : decode cX8_pending 24 = .ok (.iconst 4, 1) := by decide +kernel
theorem dX8_pending_25 : decode cX8_pending 25 = .ok (.iadd, 1) := by decide +kernel
theorem dX8_pending_26 : decode cX8_pending 26 = .ok (.iaload, 1) := by decide +kernel
theorem dX8_pending_27 : decode cX8_pending 27 = .ok (.iconst 1, 1) := by decide +kernel
theorem dX8_pending_28 : decode cX8_pending 28 = .ok (.if_icmp .ne 7, 3) := by decide +kernel
theorem dX8_pending_31 : decode cX8_pending 31 = .ok (.iconst 1, 1) := by decide +kernel
theorem dX8_pending_32 : decode cX8_pending 32 = .ok (.goto 4, 3) := by decide +kernel
theorem dX8_pending_35 : decode cX8_pending 35 = .ok (.iconst 0, 1) := by decide +kernel
theorem dX8_pending_36 : decode cX8_pending 36 = .ok (.iadd, 1) := by decide +kernel
theorem dX8_pending_37 : decode cX8_pending 37 = .ok (.istore_n 1, 1) := by decide +kernel
theorem dX8_pending_38 : decode cX8_pending 38 = .ok (.iinc 2 1, 3) := by decide +kernel
theorem dX8_pending_41 : decode cX8_pending 41 = .ok (.goto (-37), 3) := by decide +kernel
theorem dX8_pending_44 : decode cX8_pending 44 = .ok (.iload_n 1, 1) := by decide +kernel
theorem dX8_pending_45 : decode cX8_pending 45 = .ok (.ireturn, 1) := by decide +kernel
theorem dX8_count_0 : decode cX8_count 0 = .ok (.iload_n 1, 1) := by decide +kernel
theorem dX8_count_1 : decode cX8_count 1 = .ok (.tableswitch 169 0 11 #[63, 70, 77, 84, 91, 98, 105, 113, 118, 123, 128, 133], 63) := by decide +kernel
theorem dX8_count_64 : decode cX8_count 64 = .ok (.aload_n 0, 1) := by decide +kernel
theorem dX8_count_65 : decode cX8_count 65 = .ok (.getfield 7, 3) := by decide +kernel
theorem dX8_count_68 : decode cX8_count 68 = .ok (.iconst 0, 1) := by decide +kernel
theorem dX8_count_69 : decode cX8_count 69 = .ok (.iaload, 1) := by decide +kernel
theorem dX8_count_70 : decode cX8_count 70 = .ok (.ireturn, 1) := by decide +kernel
theorem dX8_count_71 : decode cX8_count 71 = .ok (.aload_n 0, 1) := by decide +kernel
theorem dX8_count_72 : decode cX8_count 72 = .ok (.getfield 7, 3) := by decide +kernel
theorem dX8_count_75 : decode cX8_count 75 = .ok (.iconst 1, 1) := by decide +kernel
theorem dX8_count_76 : decode cX8_count 76 = .ok (.iaload, 1) := by decide +kernel
theorem dX8_count_77 : decode cX8_count 77 = .ok (.ireturn, 1) := by decide +kernel
theorem dX8_count_78 : decode cX8_count 78 = .ok (.aload_n 0, 1) := by decide +kernel
theorem dX8_count_79 : decode cX8_count 79 = .ok (.getfield 7, 3) := by decide +kernel
theorem dX8_count_82 : decode cX8_count 82 = .ok (.iconst 2, 1) := by decide +kernel
theorem dX8_count_83 : decode cX8_count 83 = .ok (.iaload, 1) := by decide +kernel
theorem dX8_count_84 : decode cX8_count 84 = .ok (.ireturn, 1) := by decide +kernel
theorem dX8_count_85 : decode cX8_count 85 = .ok (.aload_n 0, 1) := by decide +kernel
theorem dX8_count_86 : decode cX8_count 86 = .ok (.getfield 7, 3) := by decide +kernel
theorem dX8_count_89 : decode cX8_count 89 = .ok (.iconst 3, 1) := by decide +kernel
theorem dX8_count_90 : decode cX8_count 90 = .ok (.iaload, 1) := by decide +kernel
theorem dX8_count_91 : decode cX8_count 91 = .ok (.ireturn, 1) := by decide +kernel
theorem dX8_count_92 : decode cX8_count 92 = .ok (.aload_n 0, 1) := by decide +kernel
theorem dX8_count_93 : decode cX8_count 93 = .ok (.getfield 7, 3) := by decide +kernel
theorem dX8_count_96 : decode cX8_count 96 = .ok (.iconst 4, 1) := by decide +kernel
theorem dX8_count_97 : decode cX8_count 97 = .ok (.iaload, 1) := by decide +kernel
theorem dX8_count_98 : decode cX8_count 98 = .ok (.ireturn, 1) := by decide +kernel
theorem dX8_count_99 : decode cX8_count 99 = .ok (.aload_n 0, 1) := by decide +kernel
theorem dX8_count_100 : decode cX8_count 100 = .ok (.getfield 7, 3) := by decide +kernel
theorem dX8_count_103 : decode cX8_count 103 = .ok (.iconst 5, 1) := by decide +kernel
theorem dX8_count_104 : decode cX8_count 104 = .ok (.iaload, 1) := by decide +kernel
theorem dX8_count_105 : decode cX8_count 105 = .ok (.ireturn, 1) := by decide +kernel
theorem dX8_count_106 : decode cX8_count 106 = .ok (.aload_n 0, 1) := by decide +kernel
theorem dX8_count_107 : decode cX8_count 107 = .ok (.getfield 7, 3) := by decide +kernel
theorem dX8_count_110 : decode cX8_count 110 = .ok (.bipush 9, 2) := by decide +kernel
theorem dX8_count_112 : decode cX8_count 112 = .ok (.iaload, 1) := by decide +kernel
theorem dX8_count_113 : decode cX8_count 113 = .ok (.ireturn, 1) := by decide +kernel
theorem dX8_count_114 : decode cX8_count 114 = .ok (.aload_n 0, 1) := by decide +kernel
theorem dX8_count_115 : decode cX8_count 115 = .ok (.invokevirtual 63, 3) := by decide +kernel
theorem dX8_count_118 : decode cX8_count 118 = .ok (.ireturn, 1) := by decide +kernel
theorem dX8_count_119 : decode cX8_count 119 = .ok (.aload_n 0, 1) := by decide +kernel
theorem dX8_count_120 : decode cX8_count 120 = .ok (.invokevirtual 67, 3) := by decide +kernel
theorem dX8_count_123 : decode cX8_count 123 = .ok (.ireturn, 1) := by decide +kernel
theorem dX8_count_124 : decode cX8_count 124 = .ok (.aload_n 0, 1) := by decide +kernel
theorem dX8_count_125 : decode cX8_count 125 = .ok (.getfield 19, 3) := by decide +kernel
theorem dX8_count_128 : decode cX8_count 128 = .ok (.ireturn, 1) := by decide +kernel
theorem dX8_count_129 : decode cX8_count 129 = .ok (.aload_n 0, 1) := by decide +kernel
theorem dX8_count_130 : decode cX8_count 130 = .ok (.getfield 70, 3) := by decide +kernel
theorem dX8_count_133 : decode cX8_count 133 = .ok (.ireturn, 1) := by decide +kernel
theorem dX8_count_134 : decode cX8_count 134 = .ok (.aload_n 0, 1) := by decide +kernel
theorem dX8_count_135 : decode cX8_count 135 = .ok (.getfield 7, 3) := by decide +kernel
theorem dX8_count_138 : decode cX8_count 138 = .ok (.iconst 4, 1) := by decide +kernel
theorem dX8_count_139 : decode cX8_count 139 = .ok (.iaload, 1) := by decide +kernel
theorem dX8_count_140 : decode cX8_count 140 = .ok (.ifCond .ne 7, 3) := by decide +kernel
theorem dX8_count_143 : decode cX8_count 143 = .ok (.iconst 0, 1) := by decide +kernel
theorem dX8_count_144 : decode cX8_count 144 = .ok (.goto 25, 3) := by decide +kernel
theorem dX8_count_147 : decode cX8_count 147 = .ok (.aload_n 0, 1) := by decide +kernel
theorem dX8_count_148 : decode cX8_count 148 = .ok (.getfield 7, 3) := by decide +kernel
theorem dX8_count_151 : decode cX8_count 151 = .ok (.bipush 7, 2) := by decide +kernel
theorem dX8_count_153 : decode cX8_count 153 = .ok (.iaload, 1) := by decide +kernel
theorem dX8_count_154 : decode cX8_count 154 = .ok (.aload_n 0, 1) := by decide +kernel
theorem dX8_count_155 : decode cX8_count 155 = .ok (.getfield 7, 3) := by decide +kernel
theorem dX8_count_158 : decode cX8_count 158 = .ok (.iconst 3, 1) := by decide +kernel
theorem dX8_count_159 : decode cX8_count 159 = .ok (.iaload, 1) := by decide +kernel
theorem dX8_count_160 : decode cX8_count 160 = .ok (.isub, 1) := by decide +kernel
theorem dX8_count_161 : decode cX8_count 161 = .ok (.aload_n 0, 1) := by decide +kernel
theorem dX8_count_162 : decode cX8_count 162 = .ok (.getfield 7, 3) := by decide +kernel
theorem dX8_count_165 : decode cX8_count 165 = .ok (.bipush 6, 2) := by decide +kernel
theorem dX8_count_167 : decode cX8_count 167 = .ok (.iaload, 1) := by decide +kernel
theorem dX8_count_168 : decode cX8_count 168 = .ok (.iadd, 1) := by decide +kernel
theorem dX8_count_169 : decode cX8_count 169 = .ok (.ireturn, 1) := by decide +kernel
theorem dX8_count_170 : decode cX8_count 170 = .ok (.iload_n 1, 1) := by decide +kernel
theorem dX8_count_171 : decode cX8_count 171 = .ok (.bipush 20, 2) := by decide +kernel
theorem dX8_count_173 : decode cX8_count 173 = .ok (.bipush 24, 2) := by decide +kernel
theorem dX8_count_175 : decode cX8_count 175 = .ok (.invokestatic 23, 3) := by decide +kernel
theorem dX8_count_178 : decode cX8_count 178 = .ok (.ifCond .eq 18, 3) := by decide +kernel
theorem dX8_count_181 : decode cX8_count 181 = .ok (.aload_n 0, 1) := by decide +kernel
theorem dX8_count_182 : decode cX8_count 182 = .ok (.getfield 7, 3) := by decide +kernel
theorem dX8_count_185 : decode cX8_count 185 = .ok (.bipush 12, 2) := by decide +kernel
theorem dX8_count_187 : decode cX8_count 187 = .ok (.iload_n 1, 1) := by decide +kernel
theorem dX8_count_188 : decode cX8_count 188 = .ok (.iadd, 1) := by decide +kernel
theorem dX8_count_189 : decode cX8_count 189 = .ok (.bipush 20, 2) := by decide +kernel
theorem dX8_count_191 : decode cX8_count 191 = .ok (.isub, 1) := by decide +kernel
theorem dX8_count_192 : decode cX8_count 192 = .ok (.iaload, 1) := by decide +kernel
theorem dX8_count_193 : decode cX8_count 193 = .ok (.goto 4, 3) := by decide +kernel
theorem dX8_count_196 : decode cX8_count 196 = .ok (.iconst (-1), 1) := by decide +kernel
theorem dX8_count_197 : decode cX8_count 197 = .ok (.ireturn, 1) := by decide +kernel
theorem dX8_open_0 : decode cX8_open 0 = .ok (.aload_n 0, 1) := by decide +kernel
theorem dX8_open_1 : decode cX8_open 1 = .ok (.getfield 7, 3) := by decide +kernel
theorem dX8_open_4 : decode cX8_open 4 = .ok (.iconst 4, 1) := by decide +kernel
theorem dX8_open_5 : decode cX8_open 5 = .ok (.iaload, 1) := by decide +kernel
theorem dX8_open_6 : decode cX8_open 6 = .ok (.iconst 1, 1) := by decide +kernel
theorem dX8_open_7 : decode cX8_open 7 = .ok (.if_icmp .eq 19, 3) := by decide +kernel
theorem dX8_open_10 : decode cX8_open 10 = .ok (.aload_n 0, 1) := by decide +kernel
theorem dX8_open_11 : decode cX8_open 11 = .ok (.invokevirtual 63, 3) := by decide +kernel
theorem dX8_open_14 : decode cX8_open 14 = .ok (.ifCond .gt 12, 3) := by decide +kernel
theorem dX8_open_17 : decode cX8_open 17 = .ok (.aload_n 0, 1) := by decide +kernel
theorem dX8_open_18 : decode cX8_open 18 = .ok (.getfield 7, 3) := by decide +kernel
theorem dX8_open_21 : decode cX8_open 21 = .ok (.iconst 1, 1) := by decide +kernel
theorem dX8_open_22 : decode cX8_open 22 = .ok (.iaload, 1) := by decide +kernel
theorem dX8_open_23 : decode cX8_open 23 = .ok (.ifCond .ne 6, 3) := by decide +kernel
theorem dX8_open_26 : decode cX8_open 26 = .ok (.bipush (-2), 2) := by decide +kernel
theorem dX8_open_28 : decode cX8_open 28 = .ok (.ireturn, 1) := by decide +kernel
theorem dX8_open_29 : decode cX8_open 29 = .ok (.aload_n 0, 1) := by decide +kernel
theorem dX8_open_30 : decode cX8_open 30 = .ok (.getfield 7, 3) := by decide +kernel
theorem dX8_open_33 : decode cX8_open 33 = .ok (.iconst 2, 1) := by decide +kernel
theorem dX8_open_34 : decode cX8_open 34 = .ok (.iaload, 1) := by decide +kernel
theorem dX8_open_35 : decode cX8_open 35 = .ok (.bipush 12, 2) := by decide +kernel
theorem dX8_open_37 : decode cX8_open 37 = .ok (.if_icmp .ne 6, 3) := by decide +kernel
theorem dX8_open_40 : decode cX8_open 40 = .ok (.bipush (-3), 2) := by decide +kernel
theorem dX8_open_42 : decode cX8_open 42 = .ok (.ireturn, 1) := by decide +kernel
theorem dX8_open_43 : decode cX8_open 43 = .ok (.aload_n 0, 1) := by decide +kernel
theorem dX8_open_44 : decode cX8_open 44 = .ok (.invokevirtual 31, 3) := by decide +kernel
theorem dX8_open_47 : decode cX8_open 47 = .ok (.aload_n 0, 1) := by decide +kernel
theorem dX8_open_48 : decode cX8_open 48 = .ok (.getfield 7, 3) := by decide +kernel
theorem dX8_open_51 : decode cX8_open 51 = .ok (.iconst 4, 1) := by decide +kernel
theorem dX8_open_52 : decode cX8_open 52 = .ok (.iconst 1, 1) := by decide +kernel
theorem dX8_open_53 : decode cX8_open 53 = .ok (.iastore, 1) := by decide +kernel
theorem dX8_open_54 : decode cX8_open 54 = .ok (.aload_n 0, 1) := by decide +kernel
theorem dX8_open_55 : decode cX8_open 55 = .ok (.getfield 7, 3) := by decide +kernel
theorem dX8_open_58 : decode cX8_open 58 = .ok (.iconst 5, 1) := by decide +kernel
theorem dX8_open_59 : decode cX8_open 59 = .ok (.dup2, 1) := by decide +kernel
theorem dX8_open_60 : decode cX8_open 60 = .ok (.iaload, 1) := by decide +kernel
theorem dX8_open_61 : decode cX8_open 61 = .ok (.iconst 1, 1) := by decide +kernel
theorem dX8_open_62 : decode cX8_open 62 = .ok (.iadd, 1) := by decide +kernel
theorem dX8_open_63 : decode cX8_open 63 = .ok (.iastore, 1) := by decide +kernel
theorem dX8_open_64 : decode cX8_open 64 = .ok (.aload_n 0, 1) := by decide +kernel
theorem dX8_open_65 : decode cX8_open 65 = .ok (.getfield 7, 3) := by decide +kernel
theorem dX8_open_68 : decode cX8_open 68 = .ok (.bipush 6, 2) := by decide +kernel
theorem dX8_open_70 : decode cX8_open 70 = .ok (.aload_n 0, 1) := by decide +kernel
theorem dX8_open_71 : decode cX8_open 71 = .ok (.getfield 7, 3) := by decide +kernel
theorem dX8_open_74 : decode cX8_open 74 = .ok (.iconst 3, 1) := by decide +kernel
theorem dX8_open_75 : decode cX8_open 75 = .ok (.iaload, 1) := by decide +kernel
theorem dX8_open_76 : decode cX8_open 76 = .ok (.iastore, 1) := by decide +kernel
theorem dX8_open_77 : decode cX8_open 77 = .ok (.aload_n 0, 1) := by decide +kernel
theorem dX8_open_78 : decode cX8_open 78 = .ok (.getfield 7, 3) := by decide +kernel
theorem dX8_open_81 : decode cX8_open 81 = .ok (.bipush 7, 2) := by decide +kernel
theorem dX8_open_83 : decode cX8_open 83 = .ok (.aload_n 0, 1) := by decide +kernel
theorem dX8_open_84 : decode cX8_open 84 = .ok (.getfield 7, 3) := by decide +kernel
theorem dX8_open_87 : decode cX8_open 87 = .ok (.bipush 14, 2) := by decide +kernel
theorem dX8_open_89 : decode cX8_open 89 = .ok (.iaload, 1) := by decide +kernel
theorem dX8_open_90 : decode cX8_open 90 = .ok (.iastore, 1) := by decide +kernel
theorem dX8_open_91 : decode cX8_open 91 = .ok (.aload_n 0, 1) := by decide +kernel
theorem dX8_open_92 : decode cX8_open 92 = .ok (.getfield 7, 3) := by decide +kernel
theorem dX8_open_95 : decode cX8_open 95 = .ok (.bipush 8, 2) := by decide +kernel
theorem dX8_open_97 : decode cX8_open 97 = .ok (.iconst 0, 1) := by decide +kernel
theorem dX8_open_98 : decode cX8_open 98 = .ok (.iastore, 1) := by decide +kernel
theorem dX8_open_99 : decode cX8_open 99 = .ok (.aload_n 0, 1) := by decide +kernel
theorem dX8_open_100 : decode cX8_open 100 = .ok (.getfield 7, 3) := by decide +kernel
theorem dX8_open_103 : decode cX8_open 103 = .ok (.bipush 9, 2) := by decide +kernel
theorem dX8_open_105 : decode cX8_open 105 = .ok (.iconst 0, 1) := by decide +kernel
theorem dX8_open_106 : decode cX8_open 106 = .ok (.iastore, 1) := by decide +kernel
theorem dX8_open_107 : decode cX8_open 107 = .ok (.aload_n 0, 1) := by decide +kernel
theorem dX8_open_108 : decode cX8_open 108 = .ok (.getfield 7, 3) := by decide +kernel
theorem dX8_open_111 : decode cX8_open 111 = .ok (.bipush 10, 2) := by decide +kernel
theorem dX8_open_113 : decode cX8_open 113 = .ok (.iconst 0, 1) := by decide +kernel
theorem dX8_open_114 : decode cX8_open 114 = .ok (.iastore, 1) := by decide +kernel
theorem dX8_open_115 : decode cX8_open 115 = .ok (.aload_n 0, 1) := by decide +kernel
theorem dX8_open_116 : decode cX8_open 116 = .ok (.getfield 7, 3) := by decide +kernel
theorem dX8_open_119 : decode cX8_open 119 = .ok (.bipush 11, 2) := by decide +kernel
theorem dX8_open_121 : decode cX8_open 121 = .ok (.iconst 0, 1) := by decide +kernel
theorem dX8_open_122 : decode cX8_open 122 = .ok (.iastore, 1) := by decide +kernel
theorem dX8_open_123 : decode cX8_open 123 = .ok (.iconst 0, 1) := by decide +kernel
theorem dX8_open_124 : decode cX8_open 124 = .ok (.istore_n 1, 1) := by decide +kernel
theorem dX8_open_125 : decode cX8_open 125 = .ok (.iload_n 1, 1) := by decide +kernel
theorem dX8_open_126 : decode cX8_open 126 = .ok (.aload_n 0, 1) := by decide +kernel
theorem dX8_open_127 : decode cX8_open 127 = .ok (.getfield 7, 3) := by decide +kernel
theorem dX8_open_130 : decode cX8_open 130 = .ok (.iconst 0, 1) := by decide +kernel
theorem dX8_open_131 : decode cX8_open 131 = .ok (.iaload, 1) := by decide +kernel
theorem dX8_open_132 : decode cX8_open 132 = .ok (.if_icmp .ge 21, 3) := by decide +kernel
theorem dX8_open_135 : decode cX8_open 135 = .ok (.aload_n 0, 1) := by decide +kernel
theorem dX8_open_136 : decode cX8_open 136 = .ok (.getfield 7, 3) := by decide +kernel
theorem dX8_open_139 : decode cX8_open 139 = .ok (.iload_n 1, 1) := by decide +kernel
theorem dX8_open_140 : decode cX8_open 140 = .ok (.invokestatic 27, 3) := by decide +kernel
theorem dX8_open_143 : decode cX8_open 143 = .ok (.iconst 2, 1) := by decide +kernel
theorem dX8_open_144 : decode cX8_open 144 = .ok (.iadd, 1) := by decide +kernel
theorem dX8_open_145 : decode cX8_open 145 = .ok (.iconst 0, 1) := by decide +kernel
theorem dX8_open_146 : decode cX8_open 146 = .ok (.iastore, 1) := by decide +kernel
theorem dX8_open_147 : decode cX8_open 147 = .ok (.iinc 1 1, 3) := by decide +kernel
theorem dX8_open_150 : decode cX8_open 150 = .ok (.goto (-25), 3) := by decide +kernel
theorem dX8_open_153 : decode cX8_open 153 = .ok (.iconst 0, 1) := by decide +kernel
theorem dX8_open_154 : decode cX8_open 154 = .ok (.istore_n 1, 1) := by decide +kernel
theorem dX8_open_155 : decode cX8_open 155 = .ok (.iload_n 1, 1) := by decide +kernel
theorem dX8_open_156 : decode cX8_open 156 = .ok (.aload_n 0, 1) := by decide +kernel
theorem dX8_open_157 : decode cX8_open 157 = .ok (.getfield 7, 3) := by decide +kernel
theorem dX8_open_160 : decode cX8_open 160 = .ok (.iconst 1, 1) := by decide +kernel
theorem dX8_open_161 : decode cX8_open 161 = .ok (.iaload, 1) := by decide +kernel
theorem dX8_open_162 : decode cX8_open 162 = .ok (.if_icmp .ge 31, 3) := by decide +kernel
theorem dX8_open_165 : decode cX8_open 165 = .ok (.aload_n 0, 1) := by decide +kernel
theorem dX8_open_166 : decode cX8_open 166 = .ok (.getfield 7, 3) := by decide +kernel
theorem dX8_open_169 : decode cX8_open 169 = .ok (.iload_n 1, 1) := by decide +kernel
theorem dX8_open_170 : decode cX8_open 170 = .ok (.invokestatic 34, 3) := by decide +kernel
theorem dX8_open_173 : decode cX8_open 173 = .ok (.iconst 2, 1) := by decide +kernel
theorem dX8_open_174 : decode cX8_open 174 = .ok (.iadd, 1) := by decide +kernel
theorem dX8_open_175 : decode cX8_open 175 = .ok (.aload_n 0, 1) := by decide +kernel
theorem dX8_open_176 : decode cX8_open 176 = .ok (.getfield 7, 3) := by decide +kernel
theorem dX8_open_179 : decode cX8_open 179 = .ok (.iload_n 1, 1) := by decide +kernel
theorem dX8_open_180 : decode cX8_open 180 = .ok (.invokestatic 34, 3) := by decide +kernel
theorem dX8_open_183 : decode cX8_open 183 = .ok (.iconst 1, 1) := by decide +kernel
theorem dX8_open_184 : decode cX8_open 184 = .ok (.iadd, 1) := by decide +kernel
theorem dX8_open_185 : decode cX8_open 185 = .ok (.iaload, 1) := by decide +kernel
theorem dX8_open_186 : decode cX8_open 186 = .ok (.iastore, 1) := by decide +kernel
theorem dX8_open_187 : decode cX8_open 187 = .ok (.iinc 1 1, 3) := by decide +kernel
theorem dX8_open_190 : decode cX8_open 190 = .ok (.goto (-35), 3) := by decide +kernel
theorem dX8_open_193 : decode cX8_open 193 = .ok (.aload_n 0, 1) := by decide +kernel
theorem dX8_open_194 : decode cX8_open 194 = .ok (.getfield 7, 3) := by decide +kernel
theorem dX8_open_197 : decode cX8_open 197 = .ok (.iconst 5, 1) := by decide +kernel
theorem dX8_open_198 : decode cX8_open 198 = .ok (.iaload, 1) := by decide +kernel
theorem dX8_open_199 : decode cX8_open 199 = .ok (.ireturn, 1) := by decide +kernel
theorem dX8_vote_0 : decode cX8_vote 0 = .ok (.aload_n 0, 1) := by decide +kernel
theorem dX8_vote_1 : decode cX8_vote 1 = .ok (.iload_n 1, 1) := by decide +kernel
theorem dX8_vote_2 : decode cX8_vote 2 = .ok (.invokevirtual 51, 3) := by decide +kernel
theorem dX8_vote_5 : decode cX8_vote 5 = .ok (.ifCond .eq 12, 3) := by decide +kernel
theorem dX8_vote_8 : decode cX8_vote 8 = .ok (.iload_n 2, 1) := by decide +kernel
theorem dX8_vote_9 : decode cX8_vote 9 = .ok (.iconst 0, 1) := by decide +kernel
theorem dX8_vote_10 : decode cX8_vote 10 = .ok (.iconst 2, 1) := by decide +kernel
theorem dX8_vote_11 : decode cX8_vote 11 = .ok (.invokestatic 23, 3) := by decide +kernel
theorem dX8_vote_14 : decode cX8_vote 14 = .ok (.ifCond .ne 5, 3) := by decide +kernel
theorem dX8_vote_17 : decode cX8_vote 17 = .ok (.iconst (-1), 1) := by decide +kernel
theorem dX8_vote_18 : decode cX8_vote 18 = .ok (.ireturn, 1) := by decide +kernel
theorem dX8_vote_19 : decode cX8_vote 19 = .ok (.aload_n 0, 1) := by decide +kernel
theorem dX8_vote_20 : decode cX8_vote 20 = .ok (.getfield 7, 3) := by decide +kernel
theorem dX8_vote_23 : decode cX8_vote 23 = .ok (.iconst 4, 1) := by decide +kernel
theorem dX8_vote_24 : decode cX8_vote 24 = .ok (.iaload, 1) := by decide +kernel
theorem dX8_vote_25 : decode cX8_vote 25 = .ok (.ifCond .ne 6, 3) := by decide +kernel
theorem dX8_vote_28 : decode cX8_vote 28 = .ok (.bipush (-2), 2) := by decide +kernel
theorem dX8_vote_30 : decode cX8_vote 30 = .ok (.ireturn, 1) := by decide +kernel
theorem dX8_vote_31 : decode cX8_vote 31 = .ok (.aload_n 0, 1) := by decide +kernel
theorem dX8_vote_32 : decode cX8_vote 32 = .ok (.invokevirtual 31, 3) := by decide +kernel
theorem dX8_vote_35 : decode cX8_vote 35 = .ok (.aload_n 0, 1) := by decide +kernel
theorem dX8_vote_36 : decode cX8_vote 36 = .ok (.getfield 7, 3) := by decide +kernel
theorem dX8_vote_39 : decode cX8_vote 39 = .ok (.iload_n 1, 1) := by decide +kernel
theorem dX8_vote_40 : decode cX8_vote 40 = .ok (.invokestatic 27, 3) := by decide +kernel
theorem dX8_vote_43 : decode cX8_vote 43 = .ok (.iconst 2, 1) := by decide +kernel
theorem dX8_vote_44 : decode cX8_vote 44 = .ok (.iadd, 1) := by decide +kernel
theorem dX8_vote_45 : decode cX8_vote 45 = .ok (.iconst 1, 1) := by decide +kernel
theorem dX8_vote_46 : decode cX8_vote 46 = .ok (.iload_n 2, 1) := by decide +kernel
theorem dX8_vote_47 : decode cX8_vote 47 = .ok (.iadd, 1) := by decide +kernel
theorem dX8_vote_48 : decode cX8_vote 48 = .ok (.iastore, 1) := by decide +kernel
theorem dX8_vote_49 : decode cX8_vote 49 = .ok (.iconst 0, 1) := by decide +kernel
theorem dX8_vote_50 : decode cX8_vote 50 = .ok (.istore_n 3, 1) := by decide +kernel
theorem dX8_vote_51 : decode cX8_vote 51 = .ok (.iconst 0, 1) := by decide +kernel
theorem dX8_vote_52 : decode cX8_vote 52 = .ok (.istore 4, 2) := by decide +kernel
theorem dX8_vote_54 : decode cX8_vote 54 = .ok (.iload 4, 2) := by decide +kernel
theorem dX8_vote_56 : decode cX8_vote 56 = .ok (.aload_n 0, 1) := by decide +kernel
theorem dX8_vote_57 : decode cX8_vote 57 = .ok (.getfield 7, 3) := by decide +kernel
theorem dX8_vote_60 : decode cX8_vote 60 = .ok (.iconst 0, 1) := by decide +kernel
theorem dX8_vote_61 : decode cX8_vote 61 = .ok (.iaload, 1) := by decide +kernel
theorem dX8_vote_62 : decode cX8_vote 62 = .ok (.if_icmp .ge 32, 3) := by decide +kernel
theorem dX8_vote_65 : decode cX8_vote 65 = .ok (.iload_n 3, 1) := by decide +kernel
theorem dX8_vote_66 : decode cX8_vote 66 = .ok (.aload_n 0, 1) := by decide +kernel
theorem dX8_vote_67 : decode cX8_vote 67 = .ok (.getfield 7, 3) := by decide +kernel
theorem dX8_vote_70 : decode cX8_vote 70 = .ok (.iload 4, 2) := by decide +kernel
theorem dX8_vote_72 : decode cX8_vote 72 = .ok (.invokestatic 27, 3) := by decide +kernel
theorem dX8_vote_75 : decode cX8_vote 75 = .ok (.iconst 2, 1) := by decide +kernel
theorem dX8_vote_76 : decode cX8_vote 76 = .ok (.iadd, 1) := by decide +kernel
theorem dX8_vote_77 : decode cX8_vote 77 = .ok (.iaload, 1) := by decide +kernel
theorem dX8_vote_78 : decode cX8_vote 78 = .ok (.ifCond .le 7, 3) := by decide +kernel
theorem dX8_vote_81 : decode cX8_vote 81 = .ok (.iconst 1, 1) := by decide +kernel
theorem dX8_vote_82 : decode cX8_vote 82 = .ok (.goto 4, 3) := by decide +kernel
theorem dX8_vote_85 : decode cX8_vote 85 = .ok (.iconst 0, 1) := by decide +kernel
theorem dX8_vote_86 : decode cX8_vote 86 = .ok (.iadd, 1) := by decide +kernel
theorem dX8_vote_87 : decode cX8_vote 87 = .ok (.istore_n 3, 1) := by decide +kernel
theorem dX8_vote_88 : decode cX8_vote 88 = .ok (.iinc 4 1, 3) := by decide +kernel
theorem dX8_vote_91 : decode cX8_vote 91 = .ok (.goto (-37), 3) := by decide +kernel
theorem dX8_vote_94 : decode cX8_vote 94 = .ok (.iload_n 3, 1) := by decide +kernel
theorem dX8_vote_95 : decode cX8_vote 95 = .ok (.ireturn, 1) := by decide +kernel
theorem dX8_isTechnical_0 : decode cX8_isTechnical 0 = .ok (.iconst 0, 1) := by decide +kernel
theorem dX8_isTechnical_1 : decode cX8_isTechnical 1 = .ok (.istore_n 2, 1) := by decide +kernel
theorem dX8_isTechnical_2 : decode cX8_isTechnical 2 = .ok (.iconst 0, 1) := by decide +kernel
theorem dX8_isTechnical_3 : decode cX8_isTechnical 3 = .ok (.istore_n 3, 1) := by decide +kernel
theorem dX8_isTechnical_4 : decode cX8_isTechnical 4 = .ok (.iload_n 3, 1) := by decide +kernel
theorem dX8_isTechnical_5 : decode cX8_isTechnical 5 = .ok (.aload_n 0, 1) := by decide +kernel
theorem dX8_isTechnical_6 : decode cX8_isTechnical 6 = .ok (.getfield 7, 3) := by decide +kernel
theorem dX8_isTechnical_9 : decode cX8_isTechnical 9 = .ok (.bipush 9, 2) := by decide +kernel
theorem dX8_isTechnical_11 : decode cX8_isTechnical 11 = .ok (.iaload, 1) := by decide +kernel
theorem dX8_isTechnical_12 : decode cX8_isTechnical 12 = .ok (.if_icmp .ge 49, 3) := by decide +kernel
theorem dX8_isTechnical_15 : decode cX8_isTechnical 15 = .ok (.iload_n 2, 1) := by decide +kernel
theorem dX8_isTechnical_16 : decode cX8_isTechnical 16 = .ok (.ifCond .ne 33, 3) := by decide +kernel
theorem dX8_isTechnical_19 : decode cX8_isTechnical 19 = .ok (.aload_n 0, 1) := by decide +kernel
theorem dX8_isTechnical_20 : decode cX8_isTechnical 20 = .ok (.getfield 7, 3) := by decide +kernel
theorem dX8_isTechnical_23 : decode cX8_isTechnical 23 = .ok (.iload_n 3, 1) := by decide +kernel
theorem dX8_isTechnical_24 : decode cX8_isTechnical 24 = .ok (.invokestatic 48, 3) := by decide +kernel
theorem dX8_isTechnical_27 : decode cX8_isTechnical 27 = .ok (.iconst 0, 1) := by decide +kernel
theorem dX8_isTechnical_28 : decode cX8_isTechnical 28 = .ok (.iadd, 1) := by decide +kernel
theorem dX8_isTechnical_29 : decode cX8_isTechnical 29 = .ok (.iaload, 1) := by decide +kernel
theorem dX8_isTechnical_30 : decode cX8_isTechnical 30 = .ok (.iload_n 1, 1) := by decide +kernel
theorem dX8_isTechnical_31 : decode cX8_isTechnical 31 = .ok (.if_icmp .ne 22, 3) := by decide +kernel
theorem dX8_isTechnical_34 : decode cX8_isTechnical 34 = .ok (.aload_n 0, 1) := by decide +kernel
theorem dX8_isTechnical_35 : decode cX8_isTechnical 35 = .ok (.getfield 7, 3) := by decide +kernel
theorem dX8_isTechnical_38 : decode cX8_isTechnical 38 = .ok (.iload_n 3, 1) := by decide +kernel
theorem dX8_isTechnical_39 : decode cX8_isTechnical 39 = .ok (.invokestatic 48, 3) := by decide +kernel
theorem dX8_isTechnical_42 : decode cX8_isTechnical 42 = .ok (.iconst 2, 1) := by decide +kernel
theorem dX8_isTechnical_43 : decode cX8_isTechnical 43 = .ok (.iadd, 1) := by decide +kernel
theorem dX8_isTechnical_44 : decode cX8_isTechnical 44 = .ok (.iaload, 1) := by decide +kernel
theorem dX8_isTechnical_45 : decode cX8_isTechnical 45 = .ok (.iconst 1, 1) := by decide +kernel
theorem dX8_isTechnical_46 : decode cX8_isTechnical 46 = .ok (.if_icmp .ne 7, 3) := by decide +kernel
theorem dX8_isTechnical_49 : decode cX8_isTechnical 49 = .ok (.iconst 1, 1) := by decide +kernel
theorem dX8_isTechnical_50 : decode cX8_isTechnical 50 = .ok (.goto 4, 3) := by decide +kernel
theorem dX8_isTechnical_53 : decode cX8_isTechnical 53 = .ok (.iconst 0, 1) := by decide +kernel
theorem dX8_isTechnical_54 : decode cX8_isTechnical 54 = .ok (.istore_n 2, 1) := by decide +kernel
theorem dX8_isTechnical_55 : decode cX8_isTechnical 55 = .ok (.iinc 3 1, 3) := by decide +kernel
theorem dX8_isTechnical_58 : decode cX8_isTechnical 58 = .ok (.goto (-54), 3) := by decide +kernel
theorem dX8_isTechnical_61 : decode cX8_isTechnical 61 = .ok (.iload_n 2, 1) := by decide +kernel
theorem dX8_isTechnical_62 : decode cX8_isTechnical 62 = .ok (.ireturn, 1) := by decide +kernel
theorem dX8_carries_0 : decode cX8_carries 0 = .ok (.iload_n 1, 1) := by decide +kernel
theorem dX8_carries_1 : decode cX8_carries 1 = .ok (.ifCond .le 49, 3) := by decide +kernel
theorem dX8_carries_4 : decode cX8_carries 4 = .ok (.iload_n 2, 1) := by decide +kernel
theorem dX8_carries_5 : decode cX8_carries 5 = .ok (.bipush 100, 2) := by decide +kernel
theorem dX8_carries_7 : decode cX8_carries 7 = .ok (.imul, 1) := by decide +kernel
theorem dX8_carries_8 : decode cX8_carries 8 = .ok (.aload_n 0, 1) := by decide +kernel
theorem dX8_carries_9 : decode cX8_carries 9 = .ok (.getfield 7, 3) := by decide +kernel
theorem dX8_carries_12 : decode cX8_carries 12 = .ok (.bipush 12, 2) := by decide +kernel
theorem dX8_carries_14 : decode cX8_carries 14 = .ok (.iaload, 1) := by decide +kernel
theorem dX8_carries_15 : decode cX8_carries 15 = .ok (.iload_n 1, 1) := by decide +kernel
theorem dX8_carries_16 : decode cX8_carries 16 = .ok (.imul, 1) := by decide +kernel
theorem dX8_carries_17 : decode cX8_carries 17 = .ok (.if_icmp .lt 33, 3) := by decide +kernel
theorem dX8_carries_20 : decode cX8_carries 20 = .ok (.iload_n 3, 1) := by decide +kernel
theorem dX8_carries_21 : decode cX8_carries 21 = .ok (.iload 4, 2) := by decide +kernel
theorem dX8_carries_23 : decode cX8_carries 23 = .ok (.iadd, 1) := by decide +kernel
theorem dX8_carries_24 : decode cX8_carries 24 = .ok (.ifCond .le 26, 3) := by decide +kernel
theorem dX8_carries_27 : decode cX8_carries 27 = .ok (.iload_n 3, 1) := by decide +kernel
theorem dX8_carries_28 : decode cX8_carries 28 = .ok (.bipush 100, 2) := by decide +kernel
theorem dX8_carries_30 : decode cX8_carries 30 = .ok (.imul, 1) := by decide +kernel
theorem dX8_carries_31 : decode cX8_carries 31 = .ok (.aload_n 0, 1) := by decide +kernel
theorem dX8_carries_32 : decode cX8_carries 32 = .ok (.getfield 7, 3) := by decide +kernel
theorem dX8_carries_35 : decode cX8_carries 35 = .ok (.bipush 13, 2) := by decide +kernel
theorem dX8_carries_37 : decode cX8_carries 37 = .ok (.iaload, 1) := by decide +kernel
theorem dX8_carries_38 : decode cX8_carries 38 = .ok (.iload_n 3, 1) := by decide +kernel
theorem dX8_carries_39 : decode cX8_carries 39 = .ok (.iload 4, 2) := by decide +kernel
theorem dX8_carries_41 : decode cX8_carries 41 = .ok (.iadd, 1) := by decide +kernel
theorem dX8_carries_42 : decode cX8_carries 42 = .ok (.imul, 1) := by decide +kernel
theorem dX8_carries_43 : decode cX8_carries 43 = .ok (.if_icmp .lt 7, 3) := by decide +kernel
theorem dX8_carries_46 : decode cX8_carries 46 = .ok (.iconst 1, 1) := by decide +kernel
theorem dX8_carries_47 : decode cX8_carries 47 = .ok (.goto 4, 3) := by decide +kernel
theorem dX8_carries_50 : decode cX8_carries 50 = .ok (.iconst 0, 1) := by decide +kernel
theorem dX8_carries_51 : decode cX8_carries 51 = .ok (.ireturn, 1) := by decide +kernel
theorem dX8_tallies_0 : decode cX8_tallies 0 = .ok (.iconst 0, 1) := by decide +kernel
theorem dX8_tallies_1 : decode cX8_tallies 1 = .ok (.istore_n 1, 1) := by decide +kernel
theorem dX8_tallies_2 : decode cX8_tallies 2 = .ok (.iload_n 1, 1) := by decide +kernel
theorem dX8_tallies_3 : decode cX8_tallies 3 = .ok (.bipush 6, 2) := by decide +kernel
theorem dX8_tallies_5 : decode cX8_tallies 5 = .ok (.if_icmp .ge 19, 3) := by decide +kernel
theorem dX8_tallies_8 : decode cX8_tallies 8 = .ok (.aload_n 0, 1) := by decide +kernel
theorem dX8_tallies_9 : decode cX8_tallies 9 = .ok (.getfield 7, 3) := by decide +kernel
theorem dX8_tallies_12 : decode cX8_tallies 12 = .ok (.bipush 17, 2) := by decide +kernel
theorem dX8_tallies_14 : decode cX8_tallies 14 = .ok (.iload_n 1, 1) := by decide +kernel
theorem dX8_tallies_15 : decode cX8_tallies 15 = .ok (.iadd, 1) := by decide +kernel
theorem dX8_tallies_16 : decode cX8_tallies 16 = .ok (.iconst 0, 1) := by decide +kernel
theorem dX8_tallies_17 : decode cX8_tallies 17 = .ok (.iastore, 1) := by decide +kernel
theorem dX8_tallies_18 : decode cX8_tallies 18 = .ok (.iinc 1 1, 3) := by decide +kernel
theorem dX8_tallies_21 : decode cX8_tallies 21 = .ok (.goto (-19), 3) := by decide +kernel
theorem dX8_tallies_24 : decode cX8_tallies 24 = .ok (.aload_n 0, 1) := by decide +kernel
theorem dX8_tallies_25 : decode cX8_tallies 25 = .ok (.getfield 7, 3) := by decide +kernel
theorem dX8_tallies_28 : decode cX8_tallies 28 = .ok (.bipush 17, 2) := by decide +kernel
theorem dX8_tallies_30 : decode cX8_tallies 30 = .ok (.aload_n 0, 1) := by decide +kernel
theorem dX8_tallies_31 : decode cX8_tallies 31 = .ok (.invokevirtual 67, 3) := by decide +kernel
theorem dX8_tallies_34 : decode cX8_tallies 34 = .ok (.iastore, 1) := by decide +kernel
theorem dX8_tallies_35 : decode cX8_tallies 35 = .ok (.iconst 0, 1) := by decide +kernel
theorem dX8_tallies_36 : decode cX8_tallies 36 = .ok (.istore_n 1, 1) := by decide +kernel
theorem dX8_tallies_37 : decode cX8_tallies 37 = .ok (.iload_n 1, 1) := by decide +kernel
theorem dX8_tallies_38 : decode cX8_tallies 38 = .ok (.aload_n 0, 1) := by decide +kernel
theorem dX8_tallies_39 : decode cX8_tallies 39 = .ok (.getfield 7, 3) := by decide +kernel
theorem dX8_tallies_42 : decode cX8_tallies 42 = .ok (.iconst 0, 1) := by decide +kernel
theorem dX8_tallies_43 : decode cX8_tallies 43 = .ok (.iaload, 1) := by decide +kernel
theorem dX8_tallies_44 : decode cX8_tallies 44 = .ok (.if_icmp .ge 96, 3) := by decide +kernel
theorem dX8_tallies_47 : decode cX8_tallies 47 = .ok (.aload_n 0, 1) := by decide +kernel
theorem dX8_tallies_48 : decode cX8_tallies 48 = .ok (.getfield 7, 3) := by decide +kernel
theorem dX8_tallies_51 : decode cX8_tallies 51 = .ok (.iload_n 1, 1) := by decide +kernel
theorem dX8_tallies_52 : decode cX8_tallies 52 = .ok (.invokestatic 27, 3) := by decide +kernel
theorem dX8_tallies_55 : decode cX8_tallies 55 = .ok (.iconst 2, 1) := by decide +kernel
theorem dX8_tallies_56 : decode cX8_tallies 56 = .ok (.iadd, 1) := by decide +kernel
theorem dX8_tallies_57 : decode cX8_tallies 57 = .ok (.iaload, 1) := by decide +kernel
theorem dX8_tallies_58 : decode cX8_tallies 58 = .ok (.istore_n 2, 1) := by decide +kernel
theorem dX8_tallies_59 : decode cX8_tallies 59 = .ok (.iload_n 2, 1) := by decide +kernel
theorem dX8_tallies_60 : decode cX8_tallies 60 = .ok (.ifCond .le 74, 3) := by decide +kernel
theorem dX8_tallies_63 : decode cX8_tallies 63 = .ok (.aload_n 0, 1) := by decide +kernel
theorem dX8_tallies_64 : decode cX8_tallies 64 = .ok (.iload_n 1, 1) := by decide +kernel
theorem dX8_tallies_65 : decode cX8_tallies 65 = .ok (.invokevirtual 54, 3) := by decide +kernel
theorem dX8_tallies_68 : decode cX8_tallies 68 = .ok (.ifCond .ne 66, 3) := by decide +kernel
theorem dX8_tallies_71 : decode cX8_tallies 71 = .ok (.iload_n 2, 1) := by decide +kernel
theorem dX8_tallies_72 : decode cX8_tallies 72 = .ok (.iconst 2, 1) := by decide +kernel
theorem dX8_tallies_73 : decode cX8_tallies 73 = .ok (.if_icmp .ne 15, 3) := by decide +kernel
theorem dX8_tallies_76 : decode cX8_tallies 76 = .ok (.aload_n 0, 1) := by decide +kernel
theorem dX8_tallies_77 : decode cX8_tallies 77 = .ok (.iload_n 1, 1) := by decide +kernel
theorem dX8_tallies_78 : decode cX8_tallies 78 = .ok (.invokevirtual 73, 3) := by decide +kernel
theorem dX8_tallies_81 : decode cX8_tallies 81 = .ok (.ifCond .ne 7, 3) := by decide +kernel
theorem dX8_tallies_84 : decode cX8_tallies 84 = .ok (.iconst 3, 1) := by decide +kernel
theorem dX8_tallies_85 : decode cX8_tallies 85 = .ok (.goto 4, 3) := by decide +kernel
theorem dX8_tallies_88 : decode cX8_tallies 88 = .ok (.iload_n 2, 1) := by decide +kernel
theorem dX8_tallies_89 : decode cX8_tallies 89 = .ok (.istore_n 3, 1) := by decide +kernel
theorem dX8_tallies_90 : decode cX8_tallies 90 = .ok (.aload_n 0, 1) := by decide +kernel
theorem dX8_tallies_91 : decode cX8_tallies 91 = .ok (.getfield 7, 3) := by decide +kernel
theorem dX8_tallies_94 : decode cX8_tallies 94 = .ok (.bipush 18, 2) := by decide +kernel
theorem dX8_tallies_96 : decode cX8_tallies 96 = .ok (.dup2, 1) := by decide +kernel
theorem dX8_tallies_97 : decode cX8_tallies 97 = .ok (.iaload, 1) := by decide +kernel
theorem dX8_tallies_98 : decode cX8_tallies 98 = .ok (.aload_n 0, 1) := by decide +kernel
theorem dX8_tallies_99 : decode cX8_tallies 99 = .ok (.getfield 7, 3) := by decide +kernel
theorem dX8_tallies_102 : decode cX8_tallies 102 = .ok (.iload_n 1, 1) := by decide +kernel
theorem dX8_tallies_103 : decode cX8_tallies 103 = .ok (.invokestatic 27, 3) := by decide +kernel
theorem dX8_tallies_106 : decode cX8_tallies 106 = .ok (.iconst 0, 1) := by decide +kernel
theorem dX8_tallies_107 : decode cX8_tallies 107 = .ok (.iadd, 1) := by decide +kernel
theorem dX8_tallies_108 : decode cX8_tallies 108 = .ok (.iaload, 1) := by decide +kernel
theorem dX8_tallies_109 : decode cX8_tallies 109 = .ok (.iadd, 1) := by decide +kernel
theorem dX8_tallies_110 : decode cX8_tallies 110 = .ok (.iastore, 1) := by decide +kernel
theorem dX8_tallies_111 : decode cX8_tallies 111 = .ok (.aload_n 0, 1) := by decide +kernel
theorem dX8_tallies_112 : decode cX8_tallies 112 = .ok (.getfield 7, 3) := by decide +kernel
theorem dX8_tallies_115 : decode cX8_tallies 115 = .ok (.bipush 18, 2) := by decide +kernel
theorem dX8_tallies_117 : decode cX8_tallies 117 = .ok (.iload_n 3, 1) := by decide +kernel
theorem dX8_tallies_118 : decode cX8_tallies 118 = .ok (.iadd, 1) := by decide +kernel
theorem dX8_tallies_119 : decode cX8_tallies 119 = .ok (.dup2, 1) := by decide +kernel
theorem dX8_tallies_120 : decode cX8_tallies 120 = .ok (.iaload, 1) := by decide +kernel
theorem dX8_tallies_121 : decode cX8_tallies 121 = .ok (.aload_n 0, 1) := by decide +kernel
theorem dX8_tallies_122 : decode cX8_tallies 122 = .ok (.getfield 7, 3) := by decide +kernel
theorem dX8_tallies_125 : decode cX8_tallies 125 = .ok (.iload_n 1, 1) := by decide +kernel
theorem dX8_tallies_126 : decode cX8_tallies 126 = .ok (.invokestatic 27, 3) := by decide +kernel
theorem dX8_tallies_129 : decode cX8_tallies 129 = .ok (.iconst 0, 1) := by decide +kernel
theorem dX8_tallies_130 : decode cX8_tallies 130 = .ok (.iadd, 1) := by decide +kernel
theorem dX8_tallies_131 : decode cX8_tallies 131 = .ok (.iaload, 1) := by decide +kernel
theorem dX8_tallies_132 : decode cX8_tallies 132 = .ok (.iadd, 1) := by decide +kernel
theorem dX8_tallies_133 : decode cX8_tallies 133 = .ok (.iastore, 1) := by decide +kernel
theorem dX8_tallies_134 : decode cX8_tallies 134 = .ok (.iinc 1 1, 3) := by decide +kernel
theorem dX8_tallies_137 : decode cX8_tallies 137 = .ok (.goto (-100), 3) := by decide +kernel
theorem dX8_tallies_140 : decode cX8_tallies 140 = .ok (.aload_n 0, 1) := by decide +kernel
theorem dX8_tallies_141 : decode cX8_tallies 141 = .ok (.getfield 7, 3) := by decide +kernel
theorem dX8_tallies_144 : decode cX8_tallies 144 = .ok (.bipush 22, 2) := by decide +kernel
theorem dX8_tallies_146 : decode cX8_tallies 146 = .ok (.aload_n 0, 1) := by decide +kernel
theorem dX8_tallies_147 : decode cX8_tallies 147 = .ok (.aload_n 0, 1) := by decide +kernel
theorem dX8_tallies_148 : decode cX8_tallies 148 = .ok (.getfield 7, 3) := by decide +kernel
theorem dX8_tallies_151 : decode cX8_tallies 151 = .ok (.bipush 17, 2) := by decide +kernel
theorem dX8_tallies_153 : decode cX8_tallies 153 = .ok (.iaload, 1) := by decide +kernel
theorem dX8_tallies_154 : decode cX8_tallies 154 = .ok (.aload_n 0, 1) := by decide +kernel
theorem dX8_tallies_155 : decode cX8_tallies 155 = .ok (.getfield 7, 3) := by decide +kernel
theorem dX8_tallies_158 : decode cX8_tallies 158 = .ok (.bipush 18, 2) := by decide +kernel
theorem dX8_tallies_160 : decode cX8_tallies 160 = .ok (.iaload, 1) := by decide +kernel
theorem dX8_tallies_161 : decode cX8_tallies 161 = .ok (.aload_n 0, 1) := by decide +kernel
theorem dX8_tallies_162 : decode cX8_tallies 162 = .ok (.getfield 7, 3) := by decide +kernel
theorem dX8_tallies_165 : decode cX8_tallies 165 = .ok (.bipush 19, 2) := by decide +kernel
theorem dX8_tallies_167 : decode cX8_tallies 167 = .ok (.iaload, 1) := by decide +kernel
theorem dX8_tallies_168 : decode cX8_tallies 168 = .ok (.aload_n 0, 1) := by decide +kernel
theorem dX8_tallies_169 : decode cX8_tallies 169 = .ok (.getfield 7, 3) := by decide +kernel
theorem dX8_tallies_172 : decode cX8_tallies 172 = .ok (.bipush 20, 2) := by decide +kernel
theorem dX8_tallies_174 : decode cX8_tallies 174 = .ok (.iaload, 1) := by decide +kernel
theorem dX8_tallies_175 : decode cX8_tallies 175 = .ok (.invokevirtual 76, 3) := by decide +kernel
theorem dX8_tallies_178 : decode cX8_tallies 178 = .ok (.ifCond .eq 7, 3) := by decide +kernel
theorem dX8_tallies_181 : decode cX8_tallies 181 = .ok (.iconst 1, 1) := by decide +kernel
theorem dX8_tallies_182 : decode cX8_tallies 182 = .ok (.goto 4, 3) := by decide +kernel
theorem dX8_tallies_185 : decode cX8_tallies 185 = .ok (.iconst 0, 1) := by decide +kernel
theorem dX8_tallies_186 : decode cX8_tallies 186 = .ok (.iastore, 1) := by decide +kernel
theorem dX8_tallies_187 : decode cX8_tallies 187 = .ok (.return_, 1) := by decide +kernel
theorem dX8_ends_0 : decode cX8_ends 0 = .ok (.aload_n 0, 1) := by decide +kernel
theorem dX8_ends_1 : decode cX8_ends 1 = .ok (.invokevirtual 80, 3) := by decide +kernel
theorem dX8_ends_4 : decode cX8_ends 4 = .ok (.iconst 0, 1) := by decide +kernel
theorem dX8_ends_5 : decode cX8_ends 5 = .ok (.istore_n 1, 1) := by decide +kernel
theorem dX8_ends_6 : decode cX8_ends 6 = .ok (.iload_n 1, 1) := by decide +kernel
theorem dX8_ends_7 : decode cX8_ends 7 = .ok (.aload_n 0, 1) := by decide +kernel
theorem dX8_ends_8 : decode cX8_ends 8 = .ok (.getfield 7, 3) := by decide +kernel
theorem dX8_ends_11 : decode cX8_ends 11 = .ok (.iconst 0, 1) := by decide +kernel
theorem dX8_ends_12 : decode cX8_ends 12 = .ok (.iaload, 1) := by decide +kernel
theorem dX8_ends_13 : decode cX8_ends 13 = .ok (.if_icmp .ge 74, 3) := by decide +kernel
theorem dX8_ends_16 : decode cX8_ends 16 = .ok (.iload_n 1, 1) := by decide +kernel
theorem dX8_ends_17 : decode cX8_ends 17 = .ok (.invokestatic 27, 3) := by decide +kernel
theorem dX8_ends_20 : decode cX8_ends 20 = .ok (.istore_n 2, 1) := by decide +kernel
theorem dX8_ends_21 : decode cX8_ends 21 = .ok (.aload_n 0, 1) := by decide +kernel
theorem dX8_ends_22 : decode cX8_ends 22 = .ok (.getfield 7, 3) := by decide +kernel
theorem dX8_ends_25 : decode cX8_ends 25 = .ok (.iload_n 2, 1) := by decide +kernel
theorem dX8_ends_26 : decode cX8_ends 26 = .ok (.iconst 1, 1) := by decide +kernel
theorem dX8_ends_27 : decode cX8_ends 27 = .ok (.iadd, 1) := by decide +kernel
theorem dX8_ends_28 : decode cX8_ends 28 = .ok (.aload_n 0, 1) := by decide +kernel
theorem dX8_ends_29 : decode cX8_ends 29 = .ok (.getfield 7, 3) := by decide +kernel
theorem dX8_ends_32 : decode cX8_ends 32 = .ok (.iload_n 2, 1) := by decide +kernel
theorem dX8_ends_33 : decode cX8_ends 33 = .ok (.iconst 2, 1) := by decide +kernel
theorem dX8_ends_34 : decode cX8_ends 34 = .ok (.iadd, 1) := by decide +kernel
theorem dX8_ends_35 : decode cX8_ends 35 = .ok (.iaload, 1) := by decide +kernel
theorem dX8_ends_36 : decode cX8_ends 36 = .ok (.ifCond .ne 16, 3) := by decide +kernel
theorem dX8_ends_39 : decode cX8_ends 39 = .ok (.aload_n 0, 1) := by decide +kernel
theorem dX8_ends_40 : decode cX8_ends 40 = .ok (.getfield 7, 3) := by decide +kernel
theorem dX8_ends_43 : decode cX8_ends 43 = .ok (.iload_n 2, 1) := by decide +kernel
theorem dX8_ends_44 : decode cX8_ends 44 = .ok (.iconst 1, 1) := by decide +kernel
theorem dX8_ends_45 : decode cX8_ends 45 = .ok (.iadd, 1) := by decide +kernel
theorem dX8_ends_46 : decode cX8_ends 46 = .ok (.iaload, 1) := by decide +kernel
theorem dX8_ends_47 : decode cX8_ends 47 = .ok (.iconst 1, 1) := by decide +kernel
theorem dX8_ends_48 : decode cX8_ends 48 = .ok (.iadd, 1) := by decide +kernel
theorem dX8_ends_49 : decode cX8_ends 49 = .ok (.goto 4, 3) := by decide +kernel
theorem dX8_ends_52 : decode cX8_ends 52 = .ok (.iconst 0, 1) := by decide +kernel
theorem dX8_ends_53 : decode cX8_ends 53 = .ok (.iastore, 1) := by decide +kernel
theorem dX8_ends_54 : decode cX8_ends 54 = .ok (.aload_n 0, 1) := by decide +kernel
theorem dX8_ends_55 : decode cX8_ends 55 = .ok (.getfield 7, 3) := by decide +kernel
theorem dX8_ends_58 : decode cX8_ends 58 = .ok (.iload_n 2, 1) := by decide +kernel
theorem dX8_ends_59 : decode cX8_ends 59 = .ok (.iconst 3, 1) := by decide +kernel
theorem dX8_ends_60 : decode cX8_ends 60 = .ok (.iadd, 1) := by decide +kernel
theorem dX8_ends_61 : decode cX8_ends 61 = .ok (.dup2, 1) := by decide +kernel
theorem dX8_ends_62 : decode cX8_ends 62 = .ok (.iaload, 1) := by decide +kernel
theorem dX8_ends_63 : decode cX8_ends 63 = .ok (.aload_n 0, 1) := by decide +kernel
theorem dX8_ends_64 : decode cX8_ends 64 = .ok (.getfield 7, 3) := by decide +kernel
theorem dX8_ends_67 : decode cX8_ends 67 = .ok (.iload_n 2, 1) := by decide +kernel
theorem dX8_ends_68 : decode cX8_ends 68 = .ok (.iconst 2, 1) := by decide +kernel
theorem dX8_ends_69 : decode cX8_ends 69 = .ok (.iadd, 1) := by decide +kernel
theorem dX8_ends_70 : decode cX8_ends 70 = .ok (.iaload, 1) := by decide +kernel
theorem dX8_ends_71 : decode cX8_ends 71 = .ok (.ifCond .ne 7, 3) := by decide +kernel
theorem dX8_ends_74 : decode cX8_ends 74 = .ok (.iconst 0, 1) := by decide +kernel
theorem dX8_ends_75 : decode cX8_ends 75 = .ok (.goto 4, 3) := by decide +kernel
theorem dX8_ends_78 : decode cX8_ends 78 = .ok (.iconst 1, 1) := by decide +kernel
theorem dX8_ends_79 : decode cX8_ends 79 = .ok (.iadd, 1) := by decide +kernel
theorem dX8_ends_80 : decode cX8_ends 80 = .ok (.iastore, 1) := by decide +kernel
theorem dX8_ends_81 : decode cX8_ends 81 = .ok (.iinc 1 1, 3) := by decide +kernel
theorem dX8_ends_84 : decode cX8_ends 84 = .ok (.goto (-78), 3) := by decide +kernel
theorem dX8_ends_87 : decode cX8_ends 87 = .ok (.aload_n 0, 1) := by decide +kernel
theorem dX8_ends_88 : decode cX8_ends 88 = .ok (.getfield 7, 3) := by decide +kernel
theorem dX8_ends_91 : decode cX8_ends 91 = .ok (.iconst 4, 1) := by decide +kernel
theorem dX8_ends_92 : decode cX8_ends 92 = .ok (.iconst 0, 1) := by decide +kernel
theorem dX8_ends_93 : decode cX8_ends 93 = .ok (.iastore, 1) := by decide +kernel
theorem dX8_ends_94 : decode cX8_ends 94 = .ok (.aload_n 0, 1) := by decide +kernel
theorem dX8_ends_95 : decode cX8_ends 95 = .ok (.getfield 7, 3) := by decide +kernel
theorem dX8_ends_98 : decode cX8_ends 98 = .ok (.bipush 8, 2) := by decide +kernel
theorem dX8_ends_100 : decode cX8_ends 100 = .ok (.aload_n 0, 1) := by decide +kernel
theorem dX8_ends_101 : decode cX8_ends 101 = .ok (.getfield 7, 3) := by decide +kernel
theorem dX8_ends_104 : decode cX8_ends 104 = .ok (.bipush 22, 2) := by decide +kernel
theorem dX8_ends_106 : decode cX8_ends 106 = .ok (.iaload, 1) := by decide +kernel
theorem dX8_ends_107 : decode cX8_ends 107 = .ok (.iastore, 1) := by decide +kernel
theorem dX8_ends_108 : decode cX8_ends 108 = .ok (.aload_n 0, 1) := by decide +kernel
theorem dX8_ends_109 : decode cX8_ends 109 = .ok (.getfield 7, 3) := by decide +kernel
theorem dX8_ends_112 : decode cX8_ends 112 = .ok (.bipush 9, 2) := by decide +kernel
theorem dX8_ends_114 : decode cX8_ends 114 = .ok (.aload_n 0, 1) := by decide +kernel
theorem dX8_ends_115 : decode cX8_ends 115 = .ok (.getfield 7, 3) := by decide +kernel
theorem dX8_ends_118 : decode cX8_ends 118 = .ok (.bipush 8, 2) := by decide +kernel
theorem dX8_ends_120 : decode cX8_ends 120 = .ok (.iaload, 1) := by decide +kernel
theorem dX8_ends_121 : decode cX8_ends 121 = .ok (.ifCond .ne 7, 3) := by decide +kernel
theorem dX8_ends_124 : decode cX8_ends 124 = .ok (.iconst 0, 1) := by decide +kernel
theorem dX8_ends_125 : decode cX8_ends 125 = .ok (.goto 10, 3) := by decide +kernel
theorem dX8_ends_128 : decode cX8_ends 128 = .ok (.aload_n 0, 1) := by decide +kernel
theorem dX8_ends_129 : decode cX8_ends 129 = .ok (.getfield 7, 3) := by decide +kernel
theorem dX8_ends_132 : decode cX8_ends 132 = .ok (.bipush 9, 2) := by decide +kernel
theorem dX8_ends_134 : decode cX8_ends 134 = .ok (.iaload, 1) := by decide +kernel
theorem dX8_ends_135 : decode cX8_ends 135 = .ok (.iastore, 1) := by decide +kernel
theorem dX8_ends_136 : decode cX8_ends 136 = .ok (.iconst 0, 1) := by decide +kernel
theorem dX8_ends_137 : decode cX8_ends 137 = .ok (.istore_n 1, 1) := by decide +kernel
theorem dX8_ends_138 : decode cX8_ends 138 = .ok (.iload_n 1, 1) := by decide +kernel
theorem dX8_ends_139 : decode cX8_ends 139 = .ok (.aload_n 0, 1) := by decide +kernel
theorem dX8_ends_140 : decode cX8_ends 140 = .ok (.getfield 7, 3) := by decide +kernel
theorem dX8_ends_143 : decode cX8_ends 143 = .ok (.bipush 9, 2) := by decide +kernel
theorem dX8_ends_145 : decode cX8_ends 145 = .ok (.iaload, 1) := by decide +kernel
theorem dX8_ends_146 : decode cX8_ends 146 = .ok (.if_icmp .ge 21, 3) := by decide +kernel
theorem dX8_ends_149 : decode cX8_ends 149 = .ok (.aload_n 0, 1) := by decide +kernel
theorem dX8_ends_150 : decode cX8_ends 150 = .ok (.getfield 7, 3) := by decide +kernel
theorem dX8_ends_153 : decode cX8_ends 153 = .ok (.iload_n 1, 1) := by decide +kernel
theorem dX8_ends_154 : decode cX8_ends 154 = .ok (.invokestatic 48, 3) := by decide +kernel
theorem dX8_ends_157 : decode cX8_ends 157 = .ok (.iconst 4, 1) := by decide +kernel
theorem dX8_ends_158 : decode cX8_ends 158 = .ok (.iadd, 1) := by decide +kernel
theorem dX8_ends_159 : decode cX8_ends 159 = .ok (.iconst 1, 1) := by decide +kernel
theorem dX8_ends_160 : decode cX8_ends 160 = .ok (.iastore, 1) := by decide +kernel
theorem dX8_ends_161 : decode cX8_ends 161 = .ok (.iinc 1 1, 3) := by decide +kernel
theorem dX8_ends_164 : decode cX8_ends 164 = .ok (.goto (-26), 3) := by decide +kernel
theorem dX8_ends_167 : decode cX8_ends 167 = .ok (.aload_n 0, 1) := by decide +kernel
theorem dX8_ends_168 : decode cX8_ends 168 = .ok (.getfield 7, 3) := by decide +kernel
theorem dX8_ends_171 : decode cX8_ends 171 = .ok (.bipush 8, 2) := by decide +kernel
theorem dX8_ends_173 : decode cX8_ends 173 = .ok (.iaload, 1) := by decide +kernel
theorem dX8_ends_174 : decode cX8_ends 174 = .ok (.iconst 1, 1) := by decide +kernel
theorem dX8_ends_175 : decode cX8_ends 175 = .ok (.if_icmp .ne 7, 3) := by decide +kernel
theorem dX8_ends_178 : decode cX8_ends 178 = .ok (.iconst 1, 1) := by decide +kernel
theorem dX8_ends_179 : decode cX8_ends 179 = .ok (.goto 4, 3) := by decide +kernel
theorem dX8_ends_182 : decode cX8_ends 182 = .ok (.iconst 0, 1) := by decide +kernel
theorem dX8_ends_183 : decode cX8_ends 183 = .ok (.ireturn, 1) := by decide +kernel
theorem dX8_pass_0 : decode cX8_pass 0 = .ok (.iload_n 1, 1) := by decide +kernel
theorem dX8_pass_1 : decode cX8_pass 1 = .ok (.iconst 1, 1) := by decide +kernel
theorem dX8_pass_2 : decode cX8_pass 2 = .ok (.sipush 365, 3) := by decide +kernel
theorem dX8_pass_5 : decode cX8_pass 5 = .ok (.invokestatic 23, 3) := by decide +kernel
theorem dX8_pass_8 : decode cX8_pass 8 = .ok (.ifCond .ne 5, 3) := by decide +kernel
theorem dX8_pass_11 : decode cX8_pass 11 = .ok (.iconst (-1), 1) := by decide +kernel
theorem dX8_pass_12 : decode cX8_pass 12 = .ok (.ireturn, 1) := by decide +kernel
theorem dX8_pass_13 : decode cX8_pass 13 = .ok (.aload_n 0, 1) := by decide +kernel
theorem dX8_pass_14 : decode cX8_pass 14 = .ok (.getfield 7, 3) := by decide +kernel
theorem dX8_pass_17 : decode cX8_pass 17 = .ok (.iconst 3, 1) := by decide +kernel
theorem dX8_pass_18 : decode cX8_pass 18 = .ok (.iaload, 1) := by decide +kernel
theorem dX8_pass_19 : decode cX8_pass 19 = .ok (.iload_n 1, 1) := by decide +kernel
theorem dX8_pass_20 : decode cX8_pass 20 = .ok (.iadd, 1) := by decide +kernel
theorem dX8_pass_21 : decode cX8_pass 21 = .ok (.sipush 10000, 3) := by decide +kernel
theorem dX8_pass_24 : decode cX8_pass 24 = .ok (.if_icmp .le 6, 3) := by decide +kernel
theorem dX8_pass_27 : decode cX8_pass 27 = .ok (.bipush (-3), 2) := by decide +kernel
theorem dX8_pass_29 : decode cX8_pass 29 = .ok (.ireturn, 1) := by decide +kernel
theorem dX8_pass_30 : decode cX8_pass 30 = .ok (.aload_n 0, 1) := by decide +kernel
theorem dX8_pass_31 : decode cX8_pass 31 = .ok (.invokevirtual 31, 3) := by decide +kernel
theorem dX8_pass_34 : decode cX8_pass 34 = .ok (.aload_n 0, 1) := by decide +kernel
theorem dX8_pass_35 : decode cX8_pass 35 = .ok (.getfield 7, 3) := by decide +kernel
theorem dX8_pass_38 : decode cX8_pass 38 = .ok (.iconst 3, 1) := by decide +kernel
theorem dX8_pass_39 : decode cX8_pass 39 = .ok (.dup2, 1) := by decide +kernel
theorem dX8_pass_40 : decode cX8_pass 40 = .ok (.iaload, 1) := by decide +kernel
theorem dX8_pass_41 : decode cX8_pass 41 = .ok (.iload_n 1, 1) := by decide +kernel
theorem dX8_pass_42 : decode cX8_pass 42 = .ok (.iadd, 1) := by decide +kernel
theorem dX8_pass_43 : decode cX8_pass 43 = .ok (.iastore, 1) := by decide +kernel
theorem dX8_pass_44 : decode cX8_pass 44 = .ok (.aload_n 0, 1) := by decide +kernel
theorem dX8_pass_45 : decode cX8_pass 45 = .ok (.getfield 7, 3) := by decide +kernel
theorem dX8_pass_48 : decode cX8_pass 48 = .ok (.iconst 4, 1) := by decide +kernel
theorem dX8_pass_49 : decode cX8_pass 49 = .ok (.iaload, 1) := by decide +kernel
theorem dX8_pass_50 : decode cX8_pass 50 = .ok (.iconst 1, 1) := by decide +kernel
theorem dX8_pass_51 : decode cX8_pass 51 = .ok (.if_icmp .ne 31, 3) := by decide +kernel
theorem dX8_pass_54 : decode cX8_pass 54 = .ok (.aload_n 0, 1) := by decide +kernel
theorem dX8_pass_55 : decode cX8_pass 55 = .ok (.getfield 7, 3) := by decide +kernel
theorem dX8_pass_58 : decode cX8_pass 58 = .ok (.iconst 3, 1) := by decide +kernel
theorem dX8_pass_59 : decode cX8_pass 59 = .ok (.iaload, 1) := by decide +kernel
theorem dX8_pass_60 : decode cX8_pass 60 = .ok (.aload_n 0, 1) := by decide +kernel
theorem dX8_pass_61 : decode cX8_pass 61 = .ok (.getfield 7, 3) := by decide +kernel
theorem dX8_pass_64 : decode cX8_pass 64 = .ok (.bipush 6, 2) := by decide +kernel
theorem dX8_pass_66 : decode cX8_pass 66 = .ok (.iaload, 1) := by decide +kernel
theorem dX8_pass_67 : decode cX8_pass 67 = .ok (.isub, 1) := by decide +kernel
theorem dX8_pass_68 : decode cX8_pass 68 = .ok (.aload_n 0, 1) := by decide +kernel
theorem dX8_pass_69 : decode cX8_pass 69 = .ok (.getfield 7, 3) := by decide +kernel
theorem dX8_pass_72 : decode cX8_pass 72 = .ok (.bipush 7, 2) := by decide +kernel
theorem dX8_pass_74 : decode cX8_pass 74 = .ok (.iaload, 1) := by decide +kernel
theorem dX8_pass_75 : decode cX8_pass 75 = .ok (.if_icmp .lt 7, 3) := by decide +kernel
theorem dX8_pass_78 : decode cX8_pass 78 = .ok (.iconst 1, 1) := by decide +kernel
theorem dX8_pass_79 : decode cX8_pass 79 = .ok (.goto 4, 3) := by decide +kernel
theorem dX8_pass_82 : decode cX8_pass 82 = .ok (.iconst 0, 1) := by decide +kernel
theorem dX8_pass_83 : decode cX8_pass 83 = .ok (.istore_n 2, 1) := by decide +kernel
theorem dX8_pass_84 : decode cX8_pass 84 = .ok (.iload_n 2, 1) := by decide +kernel
theorem dX8_pass_85 : decode cX8_pass 85 = .ok (.ifCond .ne 7, 3) := by decide +kernel
theorem dX8_pass_88 : decode cX8_pass 88 = .ok (.iconst 0, 1) := by decide +kernel
theorem dX8_pass_89 : decode cX8_pass 89 = .ok (.goto 15, 3) := by decide +kernel
theorem dX8_pass_92 : decode cX8_pass 92 = .ok (.aload_n 0, 1) := by decide +kernel
theorem dX8_pass_93 : decode cX8_pass 93 = .ok (.invokevirtual 83, 3) := by decide +kernel
theorem dX8_pass_96 : decode cX8_pass 96 = .ok (.ifCond .eq 7, 3) := by decide +kernel
theorem dX8_pass_99 : decode cX8_pass 99 = .ok (.iconst 2, 1) := by decide +kernel
theorem dX8_pass_100 : decode cX8_pass 100 = .ok (.goto 4, 3) := by decide +kernel
theorem dX8_pass_103 : decode cX8_pass 103 = .ok (.iconst 1, 1) := by decide +kernel
theorem dX8_pass_104 : decode cX8_pass 104 = .ok (.ireturn, 1) := by decide +kernel
theorem dX8_tally_0 : decode cX8_tally 0 = .ok (.iload_n 1, 1) := by decide +kernel
theorem dX8_tally_1 : decode cX8_tally 1 = .ok (.iconst 0, 1) := by decide +kernel
theorem dX8_tally_2 : decode cX8_tally 2 = .ok (.iconst 5, 1) := by decide +kernel
theorem dX8_tally_3 : decode cX8_tally 3 = .ok (.invokestatic 23, 3) := by decide +kernel
theorem dX8_tally_6 : decode cX8_tally 6 = .ok (.ifCond .ne 5, 3) := by decide +kernel
theorem dX8_tally_9 : decode cX8_tally 9 = .ok (.iconst (-1), 1) := by decide +kernel
theorem dX8_tally_10 : decode cX8_tally 10 = .ok (.ireturn, 1) := by decide +kernel
theorem dX8_tally_11 : decode cX8_tally 11 = .ok (.aload_n 0, 1) := by decide +kernel
theorem dX8_tally_12 : decode cX8_tally 12 = .ok (.getfield 7, 3) := by decide +kernel
theorem dX8_tally_15 : decode cX8_tally 15 = .ok (.iconst 5, 1) := by decide +kernel
theorem dX8_tally_16 : decode cX8_tally 16 = .ok (.iaload, 1) := by decide +kernel
theorem dX8_tally_17 : decode cX8_tally 17 = .ok (.ifCond .ne 6, 3) := by decide +kernel
theorem dX8_tally_20 : decode cX8_tally 20 = .ok (.bipush (-4), 2) := by decide +kernel
theorem dX8_tally_22 : decode cX8_tally 22 = .ok (.ireturn, 1) := by decide +kernel
theorem dX8_tally_23 : decode cX8_tally 23 = .ok (.aload_n 0, 1) := by decide +kernel
theorem dX8_tally_24 : decode cX8_tally 24 = .ok (.getfield 7, 3) := by decide +kernel
theorem dX8_tally_27 : decode cX8_tally 27 = .ok (.iconst 4, 1) := by decide +kernel
theorem dX8_tally_28 : decode cX8_tally 28 = .ok (.iaload, 1) := by decide +kernel
theorem dX8_tally_29 : decode cX8_tally 29 = .ok (.iconst 1, 1) := by decide +kernel
theorem dX8_tally_30 : decode cX8_tally 30 = .ok (.if_icmp .ne 7, 3) := by decide +kernel
theorem dX8_tally_33 : decode cX8_tally 33 = .ok (.aload_n 0, 1) := by decide +kernel
theorem dX8_tally_34 : decode cX8_tally 34 = .ok (.invokevirtual 80, 3) := by decide +kernel
theorem dX8_tally_37 : decode cX8_tally 37 = .ok (.aload_n 0, 1) := by decide +kernel
theorem dX8_tally_38 : decode cX8_tally 38 = .ok (.getfield 7, 3) := by decide +kernel
theorem dX8_tally_41 : decode cX8_tally 41 = .ok (.bipush 17, 2) := by decide +kernel
theorem dX8_tally_43 : decode cX8_tally 43 = .ok (.iload_n 1, 1) := by decide +kernel
theorem dX8_tally_44 : decode cX8_tally 44 = .ok (.iadd, 1) := by decide +kernel
theorem dX8_tally_45 : decode cX8_tally 45 = .ok (.iaload, 1) := by decide +kernel
theorem dX8_tally_46 : decode cX8_tally 46 = .ok (.ireturn, 1) := by decide +kernel
theorem dX8_lacking_0 : decode cX8_lacking 0 = .ok (.aload_n 0, 1) := by decide +kernel
theorem dX8_lacking_1 : decode cX8_lacking 1 = .ok (.getfield 7, 3) := by decide +kernel
theorem dX8_lacking_4 : decode cX8_lacking 4 = .ok (.iconst 4, 1) := by decide +kernel
theorem dX8_lacking_5 : decode cX8_lacking 5 = .ok (.iaload, 1) := by decide +kernel
theorem dX8_lacking_6 : decode cX8_lacking 6 = .ok (.ifCond .ne 6, 3) := by decide +kernel
theorem dX8_lacking_9 : decode cX8_lacking 9 = .ok (.bipush (-2), 2) := by decide +kernel
theorem dX8_lacking_11 : decode cX8_lacking 11 = .ok (.ireturn, 1) := by decide +kernel
theorem dX8_lacking_12 : decode cX8_lacking 12 = .ok (.aload_n 0, 1) := by decide +kernel
theorem dX8_lacking_13 : decode cX8_lacking 13 = .ok (.invokevirtual 80, 3) := by decide +kernel
theorem dX8_lacking_16 : decode cX8_lacking 16 = .ok (.aload_n 0, 1) := by decide +kernel
theorem dX8_lacking_17 : decode cX8_lacking 17 = .ok (.getfield 7, 3) := by decide +kernel
theorem dX8_lacking_20 : decode cX8_lacking 20 = .ok (.bipush 17, 2) := by decide +kernel
theorem dX8_lacking_22 : decode cX8_lacking 22 = .ok (.iaload, 1) := by decide +kernel
theorem dX8_lacking_23 : decode cX8_lacking 23 = .ok (.istore_n 1, 1) := by decide +kernel
theorem dX8_lacking_24 : decode cX8_lacking 24 = .ok (.aload_n 0, 1) := by decide +kernel
theorem dX8_lacking_25 : decode cX8_lacking 25 = .ok (.getfield 7, 3) := by decide +kernel
theorem dX8_lacking_28 : decode cX8_lacking 28 = .ok (.bipush 20, 2) := by decide +kernel
theorem dX8_lacking_30 : decode cX8_lacking 30 = .ok (.iaload, 1) := by decide +kernel
theorem dX8_lacking_31 : decode cX8_lacking 31 = .ok (.istore_n 2, 1) := by decide +kernel
theorem dX8_lacking_32 : decode cX8_lacking 32 = .ok (.iload_n 1, 1) := by decide +kernel
theorem dX8_lacking_33 : decode cX8_lacking 33 = .ok (.ifCond .eq 19, 3) := by decide +kernel
theorem dX8_lacking_36 : decode cX8_lacking 36 = .ok (.aload_n 0, 1) := by decide +kernel
theorem dX8_lacking_37 : decode cX8_lacking 37 = .ok (.getfield 7, 3) := by decide +kernel
theorem dX8_lacking_40 : decode cX8_lacking 40 = .ok (.bipush 13, 2) := by decide +kernel
theorem dX8_lacking_42 : decode cX8_lacking 42 = .ok (.iaload, 1) := by decide +kernel
theorem dX8_lacking_43 : decode cX8_lacking 43 = .ok (.bipush 100, 2) := by decide +kernel
theorem dX8_lacking_45 : decode cX8_lacking 45 = .ok (.if_icmp .ne 10, 3) := by decide +kernel
theorem dX8_lacking_48 : decode cX8_lacking 48 = .ok (.iload_n 2, 1) := by decide +kernel
theorem dX8_lacking_49 : decode cX8_lacking 49 = .ok (.ifCond .le 6, 3) := by decide +kernel
theorem dX8_lacking_52 : decode cX8_lacking 52 = .ok (.bipush (-4), 2) := by decide +kernel
theorem dX8_lacking_54 : decode cX8_lacking 54 = .ok (.ireturn, 1) := by decide +kernel
theorem dX8_lacking_55 : decode cX8_lacking 55 = .ok (.iconst 0, 1) := by decide +kernel
theorem dX8_lacking_56 : decode cX8_lacking 56 = .ok (.istore_n 3, 1) := by decide +kernel
theorem dX8_lacking_57 : decode cX8_lacking 57 = .ok (.aload_n 0, 1) := by decide +kernel
theorem dX8_lacking_58 : decode cX8_lacking 58 = .ok (.iload_n 1, 1) := by decide +kernel
theorem dX8_lacking_59 : decode cX8_lacking 59 = .ok (.aload_n 0, 1) := by decide +kernel
theorem dX8_lacking_60 : decode cX8_lacking 60 = .ok (.getfield 7, 3) := by decide +kernel
theorem dX8_lacking_63 : decode cX8_lacking 63 = .ok (.bipush 18, 2) := by decide +kernel
theorem dX8_lacking_65 : decode cX8_lacking 65 = .ok (.iaload, 1) := by decide +kernel
theorem dX8_lacking_66 : decode cX8_lacking 66 = .ok (.iload_n 3, 1) := by decide +kernel
theorem dX8_lacking_67 : decode cX8_lacking 67 = .ok (.iadd, 1) := by decide +kernel
theorem dX8_lacking_68 : decode cX8_lacking 68 = .ok (.aload_n 0, 1) := by decide +kernel
theorem dX8_lacking_69 : decode cX8_lacking 69 = .ok (.getfield 7, 3) := by decide +kernel
theorem dX8_lacking_72 : decode cX8_lacking 72 = .ok (.bipush 19, 2) := by decide +kernel
theorem dX8_lacking_74 : decode cX8_lacking 74 = .ok (.iaload, 1) := by decide +kernel
theorem dX8_lacking_75 : decode cX8_lacking 75 = .ok (.iload_n 3, 1) := by decide +kernel
theorem dX8_lacking_76 : decode cX8_lacking 76 = .ok (.iadd, 1) := by decide +kernel
theorem dX8_lacking_77 : decode cX8_lacking 77 = .ok (.iload_n 2, 1) := by decide +kernel
theorem dX8_lacking_78 : decode cX8_lacking 78 = .ok (.invokevirtual 76, 3) := by decide +kernel
theorem dX8_lacking_81 : decode cX8_lacking 81 = .ok (.ifCond .ne 9, 3) := by decide +kernel
theorem dX8_lacking_84 : decode cX8_lacking 84 = .ok (.iinc 3 1, 3) := by decide +kernel
theorem dX8_lacking_87 : decode cX8_lacking 87 = .ok (.goto (-30), 3) := by decide +kernel
theorem dX8_lacking_90 : decode cX8_lacking 90 = .ok (.iload_n 3, 1) := by decide +kernel
theorem dX8_lacking_91 : decode cX8_lacking 91 = .ok (.ireturn, 1) := by decide +kernel
theorem dX8_commentAt_0 : decode cX8_commentAt 0 = .ok (.sipush 973, 3) := by decide +kernel
theorem dX8_commentAt_3 : decode cX8_commentAt 3 = .ok (.bipush 8, 2) := by decide +kernel
theorem dX8_commentAt_5 : decode cX8_commentAt 5 = .ok (.iload_n 0, 1) := by decide +kernel
theorem dX8_commentAt_6 : decode cX8_commentAt 6 = .ok (.imul, 1) := by decide +kernel
theorem dX8_commentAt_7 : decode cX8_commentAt 7 = .ok (.iadd, 1) := by decide +kernel
theorem dX8_commentAt_8 : decode cX8_commentAt 8 = .ok (.ireturn, 1) := by decide +kernel
theorem dX8_isComment_0 : decode cX8_isComment 0 = .ok (.iload_n 1, 1) := by decide +kernel
theorem dX8_isComment_1 : decode cX8_isComment 1 = .ok (.iconst 0, 1) := by decide +kernel
theorem dX8_isComment_2 : decode cX8_isComment 2 = .ok (.aload_n 0, 1) := by decide +kernel
theorem dX8_isComment_3 : decode cX8_isComment 3 = .ok (.getfield 7, 3) := by decide +kernel
theorem dX8_isComment_6 : decode cX8_isComment 6 = .ok (.bipush 9, 2) := by decide +kernel
theorem dX8_isComment_8 : decode cX8_isComment 8 = .ok (.iaload, 1) := by decide +kernel
theorem dX8_isComment_9 : decode cX8_isComment 9 = .ok (.iconst 1, 1) := by decide +kernel
theorem dX8_isComment_10 : decode cX8_isComment 10 = .ok (.isub, 1) := by decide +kernel
theorem dX8_isComment_11 : decode cX8_isComment 11 = .ok (.invokestatic 23, 3) := by decide +kernel
theorem dX8_isComment_14 : decode cX8_isComment 14 = .ok (.ireturn, 1) := by decide +kernel
theorem dX8_comes_0 : decode cX8_comes 0 = .ok (.aload_n 0, 1) := by decide +kernel
theorem dX8_comes_1 : decode cX8_comes 1 = .ok (.getfield 7, 3) := by decide +kernel
theorem dX8_comes_4 : decode cX8_comes 4 = .ok (.bipush 9, 2) := by decide +kernel
theorem dX8_comes_6 : decode cX8_comes 6 = .ok (.iaload, 1) := by decide +kernel
theorem dX8_comes_7 : decode cX8_comes 7 = .ok (.invokestatic 48, 3) := by decide +kernel
theorem dX8_comes_10 : decode cX8_comes 10 = .ok (.istore 5, 2) := by decide +kernel
theorem dX8_comes_12 : decode cX8_comes 12 = .ok (.iconst 0, 1) := by decide +kernel
theorem dX8_comes_13 : decode cX8_comes 13 = .ok (.istore 6, 2) := by decide +kernel
theorem dX8_comes_15 : decode cX8_comes 15 = .ok (.iload 6, 2) := by decide +kernel
theorem dX8_comes_17 : decode cX8_comes 17 = .ok (.bipush 8, 2) := by decide +kernel
theorem dX8_comes_19 : decode cX8_comes 19 = .ok (.if_icmp .ge 20, 3) := by decide +kernel
theorem dX8_comes_22 : decode cX8_comes 22 = .ok (.aload_n 0, 1) := by decide +kernel
theorem dX8_comes_23 : decode cX8_comes 23 = .ok (.getfield 7, 3) := by decide +kernel
theorem dX8_comes_26 : decode cX8_comes 26 = .ok (.iload 5, 2) := by decide +kernel
theorem dX8_comes_28 : decode cX8_comes 28 = .ok (.iload 6, 2) := by decide +kernel
theorem dX8_comes_30 : decode cX8_comes 30 = .ok (.iadd, 1) := by decide +kernel
theorem dX8_comes_31 : decode cX8_comes 31 = .ok (.iconst 0, 1) := by decide +kernel
theorem dX8_comes_32 : decode cX8_comes 32 = .ok (.iastore, 1) := by decide +kernel
theorem dX8_comes_33 : decode cX8_comes 33 = .ok (.iinc 6 1, 3) := by decide +kernel
theorem dX8_comes_36 : decode cX8_comes 36 = .ok (.goto (-21), 3) := by decide +kernel
theorem dX8_comes_39 : decode cX8_comes 39 = .ok (.aload_n 0, 1) := by decide +kernel
theorem dX8_comes_40 : decode cX8_comes 40 = .ok (.getfield 7, 3) := by decide +kernel
theorem dX8_comes_43 : decode cX8_comes 43 = .ok (.iload 5, 2) := by decide +kernel
theorem dX8_comes_45 : decode cX8_comes 45 = .ok (.iconst 0, 1) := by decide +kernel
theorem dX8_comes_46 : decode cX8_comes 46 = .ok (.iadd, 1) := by decide +kernel
theorem dX8_comes_47 : decode cX8_comes 47 = .ok (.iload_n 1, 1) := by decide +kernel
theorem dX8_comes_48 : decode cX8_comes 48 = .ok (.iastore, 1) := by decide +kernel
theorem dX8_comes_49 : decode cX8_comes 49 = .ok (.aload_n 0, 1) := by decide +kernel
theorem dX8_comes_50 : decode cX8_comes 50 = .ok (.getfield 7, 3) := by decide +kernel
theorem dX8_comes_53 : decode cX8_comes 53 = .ok (.iload 5, 2) := by decide +kernel
theorem dX8_comes_55 : decode cX8_comes 55 = .ok (.iconst 1, 1) := by decide +kernel
theorem dX8_comes_56 : decode cX8_comes 56 = .ok (.iadd, 1) := by decide +kernel
theorem dX8_comes_57 : decode cX8_comes 57 = .ok (.iload_n 2, 1) := by decide +kernel
theorem dX8_comes_58 : decode cX8_comes 58 = .ok (.iastore, 1) := by decide +kernel
theorem dX8_comes_59 : decode cX8_comes 59 = .ok (.aload_n 0, 1) := by decide +kernel
theorem dX8_comes_60 : decode cX8_comes 60 = .ok (.getfield 7, 3) := by decide +kernel
theorem dX8_comes_63 : decode cX8_comes 63 = .ok (.iload 5, 2) := by decide +kernel
theorem dX8_comes_65 : decode cX8_comes 65 = .ok (.iconst 2, 1) := by decide +kernel
theorem dX8_comes_66 : decode cX8_comes 66 = .ok (.iadd, 1) := by decide +kernel
theorem dX8_comes_67 : decode cX8_comes 67 = .ok (.iload_n 3, 1) := by decide +kernel
theorem dX8_comes_68 : decode cX8_comes 68 = .ok (.iastore, 1) := by decide +kernel
theorem dX8_comes_69 : decode cX8_comes 69 = .ok (.aload_n 0, 1) := by decide +kernel
theorem dX8_comes_70 : decode cX8_comes 70 = .ok (.getfield 7, 3) := by decide +kernel
theorem dX8_comes_73 : decode cX8_comes 73 = .ok (.iload 5, 2) := by decide +kernel
theorem dX8_comes_75 : decode cX8_comes 75 = .ok (.iconst 3, 1) := by decide +kernel
theorem dX8_comes_76 : decode cX8_comes 76 = .ok (.iadd, 1) := by decide +kernel
theorem dX8_comes_77 : decode cX8_comes 77 = .ok (.iload 4, 2) := by decide +kernel
theorem dX8_comes_79 : decode cX8_comes 79 = .ok (.iastore, 1) := by decide +kernel
theorem dX8_comes_80 : decode cX8_comes 80 = .ok (.aload_n 0, 1) := by decide +kernel
theorem dX8_comes_81 : decode cX8_comes 81 = .ok (.getfield 7, 3) := by decide +kernel
theorem dX8_comes_84 : decode cX8_comes 84 = .ok (.bipush 9, 2) := by decide +kernel
theorem dX8_comes_86 : decode cX8_comes 86 = .ok (.dup2, 1) := by decide +kernel
theorem dX8_comes_87 : decode cX8_comes 87 = .ok (.iaload, 1) := by decide +kernel
theorem dX8_comes_88 : decode cX8_comes 88 = .ok (.iconst 1, 1) := by decide +kernel
theorem dX8_comes_89 : decode cX8_comes 89 = .ok (.iadd, 1) := by decide +kernel
theorem dX8_comes_90 : decode cX8_comes 90 = .ok (.iastore, 1) := by decide +kernel
theorem dX8_comes_91 : decode cX8_comes 91 = .ok (.aload_n 0, 1) := by decide +kernel
theorem dX8_comes_92 : decode cX8_comes 92 = .ok (.getfield 7, 3) := by decide +kernel
theorem dX8_comes_95 : decode cX8_comes 95 = .ok (.bipush 9, 2) := by decide +kernel
theorem dX8_comes_97 : decode cX8_comes 97 = .ok (.iaload, 1) := by decide +kernel
theorem dX8_comes_98 : decode cX8_comes 98 = .ok (.iconst 1, 1) := by decide +kernel
theorem dX8_comes_99 : decode cX8_comes 99 = .ok (.isub, 1) := by decide +kernel
theorem dX8_comes_100 : decode cX8_comes 100 = .ok (.ireturn, 1) := by decide +kernel
theorem dX8_comment_0 : decode cX8_comment 0 = .ok (.aload_n 0, 1) := by decide +kernel
theorem dX8_comment_1 : decode cX8_comment 1 = .ok (.iload_n 2, 1) := by decide +kernel
theorem dX8_comment_2 : decode cX8_comment 2 = .ok (.invokevirtual 41, 3) := by decide +kernel
theorem dX8_comment_5 : decode cX8_comment 5 = .ok (.istore 5, 2) := by decide +kernel
theorem dX8_comment_7 : decode cX8_comment 7 = .ok (.aload_n 0, 1) := by decide +kernel
theorem dX8_comment_8 : decode cX8_comment 8 = .ok (.iload_n 1, 1) := by decide +kernel
theorem dX8_comment_9 : decode cX8_comment 9 = .ok (.invokevirtual 51, 3) := by decide +kernel
theorem dX8_comment_12 : decode cX8_comment 12 = .ok (.ifCond .eq 25, 3) := by decide +kernel
theorem dX8_comment_15 : decode cX8_comment 15 = .ok (.iload 5, 2) := by decide +kernel
theorem dX8_comment_17 : decode cX8_comment 17 = .ok (.ifCond .lt 20, 3) := by decide +kernel
theorem dX8_comment_20 : decode cX8_comment 20 = .ok (.iload_n 3, 1) := by decide +kernel
theorem dX8_comment_21 : decode cX8_comment 21 = .ok (.iconst 0, 1) := by decide +kernel
theorem dX8_comment_22 : decode cX8_comment 22 = .ok (.iconst 1, 1) := by decide +kernel
theorem dX8_comment_23 : decode cX8_comment 23 = .ok (.invokestatic 23, 3) := by decide +kernel
theorem dX8_comment_26 : decode cX8_comment 26 = .ok (.ifCond .eq 11, 3) := by decide +kernel
theorem dX8_comment_29 : decode cX8_comment 29 = .ok (.iload 4, 2) := by decide +kernel
theorem dX8_comment_31 : decode cX8_comment 31 = .ok (.invokestatic 37, 3) := by decide +kernel
theorem dX8_comment_34 : decode cX8_comment 34 = .ok (.ifCond .ne 5, 3) := by decide +kernel
theorem dX8_comment_37 : decode cX8_comment 37 = .ok (.iconst (-1), 1) := by decide +kernel
theorem dX8_comment_38 : decode cX8_comment 38 = .ok (.ireturn, 1) := by decide +kernel
theorem dX8_comment_39 : decode cX8_comment 39 = .ok (.aload_n 0, 1) := by decide +kernel
theorem dX8_comment_40 : decode cX8_comment 40 = .ok (.getfield 7, 3) := by decide +kernel
theorem dX8_comment_43 : decode cX8_comment 43 = .ok (.iconst 4, 1) := by decide +kernel
theorem dX8_comment_44 : decode cX8_comment 44 = .ok (.iaload, 1) := by decide +kernel
theorem dX8_comment_45 : decode cX8_comment 45 = .ok (.ifCond .eq 20, 3) := by decide +kernel
theorem dX8_comment_48 : decode cX8_comment 48 = .ok (.aload_n 0, 1) := by decide +kernel
theorem dX8_comment_49 : decode cX8_comment 49 = .ok (.getfield 7, 3) := by decide +kernel
theorem dX8_comment_52 : decode cX8_comment 52 = .ok (.iload 5, 2) := by decide +kernel
theorem dX8_comment_54 : decode cX8_comment 54 = .ok (.invokestatic 34, 3) := by decide +kernel
theorem dX8_comment_57 : decode cX8_comment 57 = .ok (.iconst 1, 1) := by decide +kernel
theorem dX8_comment_58 : decode cX8_comment 58 = .ok (.iadd, 1) := by decide +kernel
theorem dX8_comment_59 : decode cX8_comment 59 = .ok (.iaload, 1) := by decide +kernel
theorem dX8_comment_60 : decode cX8_comment 60 = .ok (.iload 4, 2) := by decide +kernel
theorem dX8_comment_62 : decode cX8_comment 62 = .ok (.if_icmp .ne 6, 3) := by decide +kernel
theorem dX8_comment_65 : decode cX8_comment 65 = .ok (.bipush (-2), 2) := by decide +kernel
theorem dX8_comment_67 : decode cX8_comment 67 = .ok (.ireturn, 1) := by decide +kernel
theorem dX8_comment_68 : decode cX8_comment 68 = .ok (.aload_n 0, 1) := by decide +kernel
theorem dX8_comment_69 : decode cX8_comment 69 = .ok (.getfield 7, 3) := by decide +kernel
theorem dX8_comment_72 : decode cX8_comment 72 = .ok (.bipush 9, 2) := by decide +kernel
theorem dX8_comment_74 : decode cX8_comment 74 = .ok (.iaload, 1) := by decide +kernel
theorem dX8_comment_75 : decode cX8_comment 75 = .ok (.bipush 30, 2) := by decide +kernel
theorem dX8_comment_77 : decode cX8_comment 77 = .ok (.if_icmp .ne 6, 3) := by decide +kernel
theorem dX8_comment_80 : decode cX8_comment 80 = .ok (.bipush (-3), 2) := by decide +kernel
theorem dX8_comment_82 : decode cX8_comment 82 = .ok (.ireturn, 1) := by decide +kernel
theorem dX8_comment_83 : decode cX8_comment 83 = .ok (.aload_n 0, 1) := by decide +kernel
theorem dX8_comment_84 : decode cX8_comment 84 = .ok (.invokevirtual 31, 3) := by decide +kernel
theorem dX8_comment_87 : decode cX8_comment 87 = .ok (.aload_n 0, 1) := by decide +kernel
theorem dX8_comment_88 : decode cX8_comment 88 = .ok (.iload_n 1, 1) := by decide +kernel
theorem dX8_comment_89 : decode cX8_comment 89 = .ok (.iload_n 2, 1) := by decide +kernel
theorem dX8_comment_90 : decode cX8_comment 90 = .ok (.iload_n 3, 1) := by decide +kernel
theorem dX8_comment_91 : decode cX8_comment 91 = .ok (.iload 4, 2) := by decide +kernel
theorem dX8_comment_93 : decode cX8_comment 93 = .ok (.invokevirtual 87, 3) := by decide +kernel
theorem dX8_comment_96 : decode cX8_comment 96 = .ok (.ireturn, 1) := by decide +kernel
theorem dX8_told_0 : decode cX8_told 0 = .ok (.aload_n 0, 1) := by decide +kernel
theorem dX8_told_1 : decode cX8_told 1 = .ok (.iload_n 1, 1) := by decide +kernel
theorem dX8_told_2 : decode cX8_told 2 = .ok (.invokevirtual 91, 3) := by decide +kernel
theorem dX8_told_5 : decode cX8_told 5 = .ok (.ifCond .eq 13, 3) := by decide +kernel
theorem dX8_told_8 : decode cX8_told 8 = .ok (.iload_n 2, 1) := by decide +kernel
theorem dX8_told_9 : decode cX8_told 9 = .ok (.iconst 0, 1) := by decide +kernel
theorem dX8_told_10 : decode cX8_told 10 = .ok (.bipush 6, 2) := by decide +kernel
theorem dX8_told_12 : decode cX8_told 12 = .ok (.invokestatic 23, 3) := by decide +kernel
theorem dX8_told_15 : decode cX8_told 15 = .ok (.ifCond .ne 5, 3) := by decide +kernel
theorem dX8_told_18 : decode cX8_told 18 = .ok (.iconst (-1), 1) := by decide +kernel
theorem dX8_told_19 : decode cX8_told 19 = .ok (.ireturn, 1) := by decide +kernel
theorem dX8_told_20 : decode cX8_told 20 = .ok (.iload_n 1, 1) := by decide +kernel
theorem dX8_told_21 : decode cX8_told 21 = .ok (.invokestatic 48, 3) := by decide +kernel
theorem dX8_told_24 : decode cX8_told 24 = .ok (.istore_n 3, 1) := by decide +kernel
theorem dX8_told_25 : decode cX8_told 25 = .ok (.aload_n 0, 1) := by decide +kernel
theorem dX8_told_26 : decode cX8_told 26 = .ok (.getfield 7, 3) := by decide +kernel
theorem dX8_told_29 : decode cX8_told 29 = .ok (.iload_n 3, 1) := by decide +kernel
theorem dX8_told_30 : decode cX8_told 30 = .ok (.iconst 4, 1) := by decide +kernel
theorem dX8_told_31 : decode cX8_told 31 = .ok (.iadd, 1) := by decide +kernel
theorem dX8_told_32 : decode cX8_told 32 = .ok (.iaload, 1) := by decide +kernel
theorem dX8_told_33 : decode cX8_told 33 = .ok (.istore 4, 2) := by decide +kernel
theorem dX8_told_35 : decode cX8_told 35 = .ok (.iload_n 2, 1) := by decide +kernel
theorem dX8_told_36 : decode cX8_told 36 = .ok (.iconst 5, 1) := by decide +kernel
theorem dX8_told_37 : decode cX8_told 37 = .ok (.if_icmp .ne 9, 3) := by decide +kernel
theorem dX8_told_40 : decode cX8_told 40 = .ok (.iload 4, 2) := by decide +kernel
theorem dX8_told_42 : decode cX8_told 42 = .ok (.iconst 2, 1) := by decide +kernel
theorem dX8_told_43 : decode cX8_told 43 = .ok (.if_icmp .lt 21, 3) := by decide +kernel
theorem dX8_told_46 : decode cX8_told 46 = .ok (.iload_n 2, 1) := by decide +kernel
theorem dX8_told_47 : decode cX8_told 47 = .ok (.bipush 6, 2) := by decide +kernel
theorem dX8_told_49 : decode cX8_told 49 = .ok (.if_icmp .ne 18, 3) := by decide +kernel
theorem dX8_told_52 : decode cX8_told 52 = .ok (.iload 4, 2) := by decide +kernel
theorem dX8_told_54 : decode cX8_told 54 = .ok (.iconst 2, 1) := by decide +kernel
theorem dX8_told_55 : decode cX8_told 55 = .ok (.if_icmp .eq 12, 3) := by decide +kernel
theorem dX8_told_58 : decode cX8_told 58 = .ok (.iload 4, 2) := by decide +kernel
theorem dX8_told_60 : decode cX8_told 60 = .ok (.iconst 3, 1) := by decide +kernel
theorem dX8_told_61 : decode cX8_told 61 = .ok (.if_icmp .eq 6, 3) := by decide +kernel
theorem dX8_told_64 : decode cX8_told 64 = .ok (.bipush (-4), 2) := by decide +kernel
theorem dX8_told_66 : decode cX8_told 66 = .ok (.ireturn, 1) := by decide +kernel
theorem dX8_told_67 : decode cX8_told 67 = .ok (.aload_n 0, 1) := by decide +kernel
theorem dX8_told_68 : decode cX8_told 68 = .ok (.getfield 7, 3) := by decide +kernel
theorem dX8_told_71 : decode cX8_told 71 = .ok (.iload_n 3, 1) := by decide +kernel
theorem dX8_told_72 : decode cX8_told 72 = .ok (.iload_n 2, 1) := by decide +kernel
theorem dX8_told_73 : decode cX8_told 73 = .ok (.iadd, 1) := by decide +kernel
theorem dX8_told_74 : decode cX8_told 74 = .ok (.iaload, 1) := by decide +kernel
theorem dX8_told_75 : decode cX8_told 75 = .ok (.ireturn, 1) := by decide +kernel
theorem dX8_isAhead_0 : decode cX8_isAhead 0 = .ok (.iload_n 1, 1) := by decide +kernel
theorem dX8_isAhead_1 : decode cX8_isAhead 1 = .ok (.invokestatic 48, 3) := by decide +kernel
theorem dX8_isAhead_4 : decode cX8_isAhead 4 = .ok (.istore_n 3, 1) := by decide +kernel
theorem dX8_isAhead_5 : decode cX8_isAhead 5 = .ok (.iload_n 2, 1) := by decide +kernel
theorem dX8_isAhead_6 : decode cX8_isAhead 6 = .ok (.invokestatic 48, 3) := by decide +kernel
theorem dX8_isAhead_9 : decode cX8_isAhead 9 = .ok (.istore 4, 2) := by decide +kernel
theorem dX8_isAhead_11 : decode cX8_isAhead 11 = .ok (.aload_n 0, 1) := by decide +kernel
theorem dX8_isAhead_12 : decode cX8_isAhead 12 = .ok (.getfield 7, 3) := by decide +kernel
theorem dX8_isAhead_15 : decode cX8_isAhead 15 = .ok (.iload_n 3, 1) := by decide +kernel
theorem dX8_isAhead_16 : decode cX8_isAhead 16 = .ok (.iconst 2, 1) := by decide +kernel
theorem dX8_isAhead_17 : decode cX8_isAhead 17 = .ok (.iadd, 1) := by decide +kernel
theorem dX8_isAhead_18 : decode cX8_isAhead 18 = .ok (.iaload, 1) := by decide +kernel
theorem dX8_isAhead_19 : decode cX8_isAhead 19 = .ok (.aload_n 0, 1) := by decide +kernel
theorem dX8_isAhead_20 : decode cX8_isAhead 20 = .ok (.getfield 7, 3) := by decide +kernel
theorem dX8_isAhead_23 : decode cX8_isAhead 23 = .ok (.iload 4, 2) := by decide +kernel
theorem dX8_isAhead_25 : decode cX8_isAhead 25 = .ok (.iconst 2, 1) := by decide +kernel
theorem dX8_isAhead_26 : decode cX8_isAhead 26 = .ok (.iadd, 1) := by decide +kernel
theorem dX8_isAhead_27 : decode cX8_isAhead 27 = .ok (.iaload, 1) := by decide +kernel
theorem dX8_isAhead_28 : decode cX8_isAhead 28 = .ok (.if_icmp .eq 21, 3) := by decide +kernel
theorem dX8_isAhead_31 : decode cX8_isAhead 31 = .ok (.aload_n 0, 1) := by decide +kernel
theorem dX8_isAhead_32 : decode cX8_isAhead 32 = .ok (.getfield 7, 3) := by decide +kernel
theorem dX8_isAhead_35 : decode cX8_isAhead 35 = .ok (.iload_n 3, 1) := by decide +kernel
theorem dX8_isAhead_36 : decode cX8_isAhead 36 = .ok (.iconst 2, 1) := by decide +kernel
theorem dX8_isAhead_37 : decode cX8_isAhead 37 = .ok (.iadd, 1) := by decide +kernel
theorem dX8_isAhead_38 : decode cX8_isAhead 38 = .ok (.iaload, 1) := by decide +kernel
theorem dX8_isAhead_39 : decode cX8_isAhead 39 = .ok (.iconst 1, 1) := by decide +kernel
theorem dX8_isAhead_40 : decode cX8_isAhead 40 = .ok (.if_icmp .ne 7, 3) := by decide +kernel
theorem dX8_isAhead_43 : decode cX8_isAhead 43 = .ok (.iconst 1, 1) := by decide +kernel
theorem dX8_isAhead_44 : decode cX8_isAhead 44 = .ok (.goto 4, 3) := by decide +kernel
theorem dX8_isAhead_47 : decode cX8_isAhead 47 = .ok (.iconst 0, 1) := by decide +kernel
theorem dX8_isAhead_48 : decode cX8_isAhead 48 = .ok (.ireturn, 1) := by decide +kernel
theorem dX8_isAhead_49 : decode cX8_isAhead 49 = .ok (.aload_n 0, 1) := by decide +kernel
theorem dX8_isAhead_50 : decode cX8_isAhead 50 = .ok (.getfield 7, 3) := by decide +kernel
theorem dX8_isAhead_53 : decode cX8_isAhead 53 = .ok (.iload_n 3, 1) := by decide +kernel
theorem dX8_isAhead_54 : decode cX8_isAhead 54 = .ok (.iconst 1, 1) := by decide +kernel
theorem dX8_isAhead_55 : decode cX8_isAhead 55 = .ok (.iadd, 1) := by decide +kernel
theorem dX8_isAhead_56 : decode cX8_isAhead 56 = .ok (.iaload, 1) := by decide +kernel
theorem dX8_isAhead_57 : decode cX8_isAhead 57 = .ok (.aload_n 0, 1) := by decide +kernel
theorem dX8_isAhead_58 : decode cX8_isAhead 58 = .ok (.getfield 7, 3) := by decide +kernel
theorem dX8_isAhead_61 : decode cX8_isAhead 61 = .ok (.iload 4, 2) := by decide +kernel
theorem dX8_isAhead_63 : decode cX8_isAhead 63 = .ok (.iconst 1, 1) := by decide +kernel
theorem dX8_isAhead_64 : decode cX8_isAhead 64 = .ok (.iadd, 1) := by decide +kernel
theorem dX8_isAhead_65 : decode cX8_isAhead 65 = .ok (.iaload, 1) := by decide +kernel
theorem dX8_isAhead_66 : decode cX8_isAhead 66 = .ok (.if_icmp .eq 29, 3) := by decide +kernel
theorem dX8_isAhead_69 : decode cX8_isAhead 69 = .ok (.aload_n 0, 1) := by decide +kernel
theorem dX8_isAhead_70 : decode cX8_isAhead 70 = .ok (.getfield 7, 3) := by decide +kernel
theorem dX8_isAhead_73 : decode cX8_isAhead 73 = .ok (.iload_n 3, 1) := by decide +kernel
theorem dX8_isAhead_74 : decode cX8_isAhead 74 = .ok (.iconst 1, 1) := by decide +kernel
theorem dX8_isAhead_75 : decode cX8_isAhead 75 = .ok (.iadd, 1) := by decide +kernel
theorem dX8_isAhead_76 : decode cX8_isAhead 76 = .ok (.iaload, 1) := by decide +kernel
theorem dX8_isAhead_77 : decode cX8_isAhead 77 = .ok (.aload_n 0, 1) := by decide +kernel
theorem dX8_isAhead_78 : decode cX8_isAhead 78 = .ok (.getfield 7, 3) := by decide +kernel
theorem dX8_isAhead_81 : decode cX8_isAhead 81 = .ok (.iload 4, 2) := by decide +kernel
theorem dX8_isAhead_83 : decode cX8_isAhead 83 = .ok (.iconst 1, 1) := by decide +kernel
theorem dX8_isAhead_84 : decode cX8_isAhead 84 = .ok (.iadd, 1) := by decide +kernel
theorem dX8_isAhead_85 : decode cX8_isAhead 85 = .ok (.iaload, 1) := by decide +kernel
theorem dX8_isAhead_86 : decode cX8_isAhead 86 = .ok (.if_icmp .ge 7, 3) := by decide +kernel
theorem dX8_isAhead_89 : decode cX8_isAhead 89 = .ok (.iconst 1, 1) := by decide +kernel
theorem dX8_isAhead_90 : decode cX8_isAhead 90 = .ok (.goto 4, 3) := by decide +kernel
theorem dX8_isAhead_93 : decode cX8_isAhead 93 = .ok (.iconst 0, 1) := by decide +kernel
theorem dX8_isAhead_94 : decode cX8_isAhead 94 = .ok (.ireturn, 1) := by decide +kernel
theorem dX8_isAhead_95 : decode cX8_isAhead 95 = .ok (.aload_n 0, 1) := by decide +kernel
theorem dX8_isAhead_96 : decode cX8_isAhead 96 = .ok (.getfield 7, 3) := by decide +kernel
theorem dX8_isAhead_99 : decode cX8_isAhead 99 = .ok (.aload_n 0, 1) := by decide +kernel
theorem dX8_isAhead_100 : decode cX8_isAhead 100 = .ok (.getfield 7, 3) := by decide +kernel
theorem dX8_isAhead_103 : decode cX8_isAhead 103 = .ok (.iload_n 3, 1) := by decide +kernel
theorem dX8_isAhead_104 : decode cX8_isAhead 104 = .ok (.iconst 0, 1) := by decide +kernel
theorem dX8_isAhead_105 : decode cX8_isAhead 105 = .ok (.iadd, 1) := by decide +kernel
theorem dX8_isAhead_106 : decode cX8_isAhead 106 = .ok (.iaload, 1) := by decide +kernel
theorem dX8_isAhead_107 : decode cX8_isAhead 107 = .ok (.invokestatic 27, 3) := by decide +kernel
theorem dX8_isAhead_110 : decode cX8_isAhead 110 = .ok (.iconst 0, 1) := by decide +kernel
theorem dX8_isAhead_111 : decode cX8_isAhead 111 = .ok (.iadd, 1) := by decide +kernel
theorem dX8_isAhead_112 : decode cX8_isAhead 112 = .ok (.iaload, 1) := by decide +kernel
theorem dX8_isAhead_113 : decode cX8_isAhead 113 = .ok (.istore 5, 2) := by decide +kernel
theorem dX8_isAhead_115 : decode cX8_isAhead 115 = .ok (.aload_n 0, 1) := by decide +kernel
theorem dX8_isAhead_116 : decode cX8_isAhead 116 = .ok (.getfield 7, 3) := by decide +kernel
theorem dX8_isAhead_119 : decode cX8_isAhead 119 = .ok (.aload_n 0, 1) := by decide +kernel
theorem dX8_isAhead_120 : decode cX8_isAhead 120 = .ok (.getfield 7, 3) := by decide +kernel
theorem dX8_isAhead_123 : decode cX8_isAhead 123 = .ok (.iload 4, 2) := by decide +kernel
theorem dX8_isAhead_125 : decode cX8_isAhead 125 = .ok (.iconst 0, 1) := by decide +kernel
theorem dX8_isAhead_126 : decode cX8_isAhead 126 = .ok (.iadd, 1) := by decide +kernel
theorem dX8_isAhead_127 : decode cX8_isAhead 127 = .ok (.iaload, 1) := by decide +kernel
theorem dX8_isAhead_128 : decode cX8_isAhead 128 = .ok (.invokestatic 27, 3) := by decide +kernel
theorem dX8_isAhead_131 : decode cX8_isAhead 131 = .ok (.iconst 0, 1) := by decide +kernel
theorem dX8_isAhead_132 : decode cX8_isAhead 132 = .ok (.iadd, 1) := by decide +kernel
theorem dX8_isAhead_133 : decode cX8_isAhead 133 = .ok (.iaload, 1) := by decide +kernel
theorem dX8_isAhead_134 : decode cX8_isAhead 134 = .ok (.istore 6, 2) := by decide +kernel
theorem dX8_isAhead_136 : decode cX8_isAhead 136 = .ok (.iload 5, 2) := by decide +kernel
theorem dX8_isAhead_138 : decode cX8_isAhead 138 = .ok (.iload 6, 2) := by decide +kernel
theorem dX8_isAhead_140 : decode cX8_isAhead 140 = .ok (.if_icmp .eq 18, 3) := by decide +kernel
theorem dX8_isAhead_143 : decode cX8_isAhead 143 = .ok (.iload 5, 2) := by decide +kernel
theorem dX8_isAhead_145 : decode cX8_isAhead 145 = .ok (.iload 6, 2) := by decide +kernel
theorem dX8_isAhead_147 : decode cX8_isAhead 147 = .ok (.if_icmp .le 7, 3) := by decide +kernel
theorem dX8_isAhead_150 : decode cX8_isAhead 150 = .ok (.iconst 1, 1) := by decide +kernel
theorem dX8_isAhead_151 : decode cX8_isAhead 151 = .ok (.goto 17, 3) := by decide +kernel
theorem dX8_isAhead_154 : decode cX8_isAhead 154 = .ok (.iconst 0, 1) := by decide +kernel
theorem dX8_isAhead_155 : decode cX8_isAhead 155 = .ok (.goto 13, 3) := by decide +kernel
theorem dX8_isAhead_158 : decode cX8_isAhead 158 = .ok (.iload_n 1, 1) := by decide +kernel
theorem dX8_isAhead_159 : decode cX8_isAhead 159 = .ok (.iload_n 2, 1) := by decide +kernel
theorem dX8_isAhead_160 : decode cX8_isAhead 160 = .ok (.if_icmp .ge 7, 3) := by decide +kernel
theorem dX8_isAhead_163 : decode cX8_isAhead 163 = .ok (.iconst 1, 1) := by decide +kernel
theorem dX8_isAhead_164 : decode cX8_isAhead 164 = .ok (.goto 4, 3) := by decide +kernel
theorem dX8_isAhead_167 : decode cX8_isAhead 167 = .ok (.iconst 0, 1) := by decide +kernel
theorem dX8_isAhead_168 : decode cX8_isAhead 168 = .ok (.ireturn, 1) := by decide +kernel
theorem dX8_next_0 : decode cX8_next 0 = .ok (.bipush (-4), 2) := by decide +kernel
theorem dX8_next_2 : decode cX8_next 2 = .ok (.istore_n 1, 1) := by decide +kernel
theorem dX8_next_3 : decode cX8_next 3 = .ok (.iconst 0, 1) := by decide +kernel
theorem dX8_next_4 : decode cX8_next 4 = .ok (.istore_n 2, 1) := by decide +kernel
theorem dX8_next_5 : decode cX8_next 5 = .ok (.iload_n 2, 1) := by decide +kernel
theorem dX8_next_6 : decode cX8_next 6 = .ok (.aload_n 0, 1) := by decide +kernel
theorem dX8_next_7 : decode cX8_next 7 = .ok (.getfield 7, 3) := by decide +kernel
theorem dX8_next_10 : decode cX8_next 10 = .ok (.bipush 9, 2) := by decide +kernel
theorem dX8_next_12 : decode cX8_next 12 = .ok (.iaload, 1) := by decide +kernel
theorem dX8_next_13 : decode cX8_next 13 = .ok (.if_icmp .ge 55, 3) := by decide +kernel
theorem dX8_next_16 : decode cX8_next 16 = .ok (.aload_n 0, 1) := by decide +kernel
theorem dX8_next_17 : decode cX8_next 17 = .ok (.getfield 7, 3) := by decide +kernel
theorem dX8_next_20 : decode cX8_next 20 = .ok (.iload_n 2, 1) := by decide +kernel
theorem dX8_next_21 : decode cX8_next 21 = .ok (.invokestatic 48, 3) := by decide +kernel
theorem dX8_next_24 : decode cX8_next 24 = .ok (.iconst 4, 1) := by decide +kernel
theorem dX8_next_25 : decode cX8_next 25 = .ok (.iadd, 1) := by decide +kernel
theorem dX8_next_26 : decode cX8_next 26 = .ok (.iaload, 1) := by decide +kernel
theorem dX8_next_27 : decode cX8_next 27 = .ok (.iconst 1, 1) := by decide +kernel
theorem dX8_next_28 : decode cX8_next 28 = .ok (.if_icmp .ne 22, 3) := by decide +kernel
theorem dX8_next_31 : decode cX8_next 31 = .ok (.iload_n 1, 1) := by decide +kernel
theorem dX8_next_32 : decode cX8_next 32 = .ok (.bipush (-4), 2) := by decide +kernel
theorem dX8_next_34 : decode cX8_next 34 = .ok (.if_icmp .eq 12, 3) := by decide +kernel
theorem dX8_next_37 : decode cX8_next 37 = .ok (.aload_n 0, 1) := by decide +kernel
theorem dX8_next_38 : decode cX8_next 38 = .ok (.iload_n 2, 1) := by decide +kernel
theorem dX8_next_39 : decode cX8_next 39 = .ok (.iload_n 1, 1) := by decide +kernel
theorem dX8_next_40 : decode cX8_next 40 = .ok (.invokevirtual 94, 3) := by decide +kernel
theorem dX8_next_43 : decode cX8_next 43 = .ok (.ifCond .eq 7, 3) := by decide +kernel
theorem dX8_next_46 : decode cX8_next 46 = .ok (.iconst 1, 1) := by decide +kernel
theorem dX8_next_47 : decode cX8_next 47 = .ok (.goto 4, 3) := by decide +kernel
theorem dX8_next_50 : decode cX8_next 50 = .ok (.iconst 0, 1) := by decide +kernel
theorem dX8_next_51 : decode cX8_next 51 = .ok (.istore_n 3, 1) := by decide +kernel
theorem dX8_next_52 : decode cX8_next 52 = .ok (.iload_n 3, 1) := by decide +kernel
theorem dX8_next_53 : decode cX8_next 53 = .ok (.ifCond .eq 7, 3) := by decide +kernel
theorem dX8_next_56 : decode cX8_next 56 = .ok (.iload_n 2, 1) := by decide +kernel
theorem dX8_next_57 : decode cX8_next 57 = .ok (.goto 4, 3) := by decide +kernel
theorem dX8_next_60 : decode cX8_next 60 = .ok (.iload_n 1, 1) := by decide +kernel
theorem dX8_next_61 : decode cX8_next 61 = .ok (.istore_n 1, 1) := by decide +kernel
theorem dX8_next_62 : decode cX8_next 62 = .ok (.iinc 2 1, 3) := by decide +kernel
theorem dX8_next_65 : decode cX8_next 65 = .ok (.goto (-60), 3) := by decide +kernel
theorem dX8_next_68 : decode cX8_next 68 = .ok (.iload_n 1, 1) := by decide +kernel
theorem dX8_next_69 : decode cX8_next 69 = .ok (.ireturn, 1) := by decide +kernel
theorem dX8_canGet_0 : decode cX8_canGet 0 = .ok (.iload_n 1, 1) := by decide +kernel
theorem dX8_canGet_1 : decode cX8_canGet 1 = .ok (.invokestatic 34, 3) := by decide +kernel
theorem dX8_canGet_4 : decode cX8_canGet 4 = .ok (.istore_n 3, 1) := by decide +kernel
theorem dX8_canGet_5 : decode cX8_canGet 5 = .ok (.aload_n 0, 1) := by decide +kernel
theorem dX8_canGet_6 : decode cX8_canGet 6 = .ok (.getfield 7, 3) := by decide +kernel
theorem dX8_canGet_9 : decode cX8_canGet 9 = .ok (.iload_n 3, 1) := by decide +kernel
theorem dX8_canGet_10 : decode cX8_canGet 10 = .ok (.iconst 1, 1) := by decide +kernel
theorem dX8_canGet_11 : decode cX8_canGet 11 = .ok (.iadd, 1) := by decide +kernel
theorem dX8_canGet_12 : decode cX8_canGet 12 = .ok (.iaload, 1) := by decide +kernel
theorem dX8_canGet_13 : decode cX8_canGet 13 = .ok (.aload_n 0, 1) := by decide +kernel
theorem dX8_canGet_14 : decode cX8_canGet 14 = .ok (.getfield 7, 3) := by decide +kernel
theorem dX8_canGet_17 : decode cX8_canGet 17 = .ok (.iload_n 3, 1) := by decide +kernel
theorem dX8_canGet_18 : decode cX8_canGet 18 = .ok (.iconst 2, 1) := by decide +kernel
theorem dX8_canGet_19 : decode cX8_canGet 19 = .ok (.iadd, 1) := by decide +kernel
theorem dX8_canGet_20 : decode cX8_canGet 20 = .ok (.iaload, 1) := by decide +kernel
theorem dX8_canGet_21 : decode cX8_canGet 21 = .ok (.if_icmp .eq 15, 3) := by decide +kernel
theorem dX8_canGet_24 : decode cX8_canGet 24 = .ok (.aload_n 0, 1) := by decide +kernel
theorem dX8_canGet_25 : decode cX8_canGet 25 = .ok (.getfield 7, 3) := by decide +kernel
theorem dX8_canGet_28 : decode cX8_canGet 28 = .ok (.iload_n 3, 1) := by decide +kernel
theorem dX8_canGet_29 : decode cX8_canGet 29 = .ok (.iconst 1, 1) := by decide +kernel
theorem dX8_canGet_30 : decode cX8_canGet 30 = .ok (.iadd, 1) := by decide +kernel
theorem dX8_canGet_31 : decode cX8_canGet 31 = .ok (.iaload, 1) := by decide +kernel
theorem dX8_canGet_32 : decode cX8_canGet 32 = .ok (.iload_n 2, 1) := by decide +kernel
theorem dX8_canGet_33 : decode cX8_canGet 33 = .ok (.if_icmp .ne 7, 3) := by decide +kernel
theorem dX8_canGet_36 : decode cX8_canGet 36 = .ok (.iconst 1, 1) := by decide +kernel
theorem dX8_canGet_37 : decode cX8_canGet 37 = .ok (.goto 4, 3) := by decide +kernel
theorem dX8_canGet_40 : decode cX8_canGet 40 = .ok (.iconst 0, 1) := by decide +kernel
theorem dX8_canGet_41 : decode cX8_canGet 41 = .ok (.ireturn, 1) := by decide +kernel
theorem dX8_giver_0 : decode cX8_giver 0 = .ok (.iconst (-1), 1) := by decide +kernel
theorem dX8_giver_1 : decode cX8_giver 1 = .ok (.istore_n 3, 1) := by decide +kernel
theorem dX8_giver_2 : decode cX8_giver 2 = .ok (.iconst 0, 1) := by decide +kernel
theorem dX8_giver_3 : decode cX8_giver 3 = .ok (.istore 4, 2) := by decide +kernel
theorem dX8_giver_5 : decode cX8_giver 5 = .ok (.iload 4, 2) := by decide +kernel
theorem dX8_giver_7 : decode cX8_giver 7 = .ok (.aload_n 0, 1) := by decide +kernel
theorem dX8_giver_8 : decode cX8_giver 8 = .ok (.getfield 7, 3) := by decide +kernel
theorem dX8_giver_11 : decode cX8_giver 11 = .ok (.bipush 9, 2) := by decide +kernel
theorem dX8_giver_13 : decode cX8_giver 13 = .ok (.iaload, 1) := by decide +kernel
theorem dX8_giver_14 : decode cX8_giver 14 = .ok (.if_icmp .ge 117, 3) := by decide +kernel
theorem dX8_giver_17 : decode cX8_giver 17 = .ok (.iload 4, 2) := by decide +kernel
theorem dX8_giver_19 : decode cX8_giver 19 = .ok (.invokestatic 48, 3) := by decide +kernel
theorem dX8_giver_22 : decode cX8_giver 22 = .ok (.istore 5, 2) := by decide +kernel
theorem dX8_giver_24 : decode cX8_giver 24 = .ok (.aload_n 0, 1) := by decide +kernel
theorem dX8_giver_25 : decode cX8_giver 25 = .ok (.getfield 7, 3) := by decide +kernel
theorem dX8_giver_28 : decode cX8_giver 28 = .ok (.iload 5, 2) := by decide +kernel
theorem dX8_giver_30 : decode cX8_giver 30 = .ok (.iconst 4, 1) := by decide +kernel
theorem dX8_giver_31 : decode cX8_giver 31 = .ok (.iadd, 1) := by decide +kernel
theorem dX8_giver_32 : decode cX8_giver 32 = .ok (.iaload, 1) := by decide +kernel
theorem dX8_giver_33 : decode cX8_giver 33 = .ok (.iconst 2, 1) := by decide +kernel
theorem dX8_giver_34 : decode cX8_giver 34 = .ok (.if_icmp .eq 16, 3) := by decide +kernel
theorem dX8_giver_37 : decode cX8_giver 37 = .ok (.aload_n 0, 1) := by decide +kernel
theorem dX8_giver_38 : decode cX8_giver 38 = .ok (.getfield 7, 3) := by decide +kernel
theorem dX8_giver_41 : decode cX8_giver 41 = .ok (.iload 5, 2) := by decide +kernel
theorem dX8_giver_43 : decode cX8_giver 43 = .ok (.iconst 4, 1) := by decide +kernel
theorem dX8_giver_44 : decode cX8_giver 44 = .ok (.iadd, 1) := by decide +kernel
theorem dX8_giver_45 : decode cX8_giver 45 = .ok (.iaload, 1) := by decide +kernel
theorem dX8_giver_46 : decode cX8_giver 46 = .ok (.iconst 3, 1) := by decide +kernel
theorem dX8_giver_47 : decode cX8_giver 47 = .ok (.if_icmp .ne 34, 3) := by decide +kernel
theorem dX8_giver_50 : decode cX8_giver 50 = .ok (.aload_n 0, 1) := by decide +kernel
theorem dX8_giver_51 : decode cX8_giver 51 = .ok (.getfield 7, 3) := by decide +kernel
theorem dX8_giver_54 : decode cX8_giver 54 = .ok (.iload 5, 2) := by decide +kernel
theorem dX8_giver_56 : decode cX8_giver 56 = .ok (.iconst 1, 1) := by decide +kernel
theorem dX8_giver_57 : decode cX8_giver 57 = .ok (.iadd, 1) := by decide +kernel
theorem dX8_giver_58 : decode cX8_giver 58 = .ok (.iaload, 1) := by decide +kernel
theorem dX8_giver_59 : decode cX8_giver 59 = .ok (.iload_n 1, 1) := by decide +kernel
theorem dX8_giver_60 : decode cX8_giver 60 = .ok (.if_icmp .ne 21, 3) := by decide +kernel
theorem dX8_giver_63 : decode cX8_giver 63 = .ok (.aload_n 0, 1) := by decide +kernel
theorem dX8_giver_64 : decode cX8_giver 64 = .ok (.getfield 7, 3) := by decide +kernel
theorem dX8_giver_67 : decode cX8_giver 67 = .ok (.iload 5, 2) := by decide +kernel
theorem dX8_giver_69 : decode cX8_giver 69 = .ok (.bipush 6, 2) := by decide +kernel
theorem dX8_giver_71 : decode cX8_giver 71 = .ok (.iadd, 1) := by decide +kernel
theorem dX8_giver_72 : decode cX8_giver 72 = .ok (.iaload, 1) := by decide +kernel
theorem dX8_giver_73 : decode cX8_giver 73 = .ok (.iload_n 2, 1) := by decide +kernel
theorem dX8_giver_74 : decode cX8_giver 74 = .ok (.if_icmp .ne 7, 3) := by decide +kernel
theorem dX8_giver_77 : decode cX8_giver 77 = .ok (.iconst 1, 1) := by decide +kernel
theorem dX8_giver_78 : decode cX8_giver 78 = .ok (.goto 4, 3) := by decide +kernel
theorem dX8_giver_81 : decode cX8_giver 81 = .ok (.iconst 0, 1) := by decide +kernel
theorem dX8_giver_82 : decode cX8_giver 82 = .ok (.istore 6, 2) := by decide +kernel
theorem dX8_giver_84 : decode cX8_giver 84 = .ok (.iload 6, 2) := by decide +kernel
theorem dX8_giver_86 : decode cX8_giver 86 = .ok (.ifCond .eq 37, 3) := by decide +kernel
theorem dX8_giver_89 : decode cX8_giver 89 = .ok (.iload_n 3, 1) := by decide +kernel
theorem dX8_giver_90 : decode cX8_giver 90 = .ok (.ifCond .lt 28, 3) := by decide +kernel
theorem dX8_giver_93 : decode cX8_giver 93 = .ok (.aload_n 0, 1) := by decide +kernel
theorem dX8_giver_94 : decode cX8_giver 94 = .ok (.getfield 7, 3) := by decide +kernel
theorem dX8_giver_97 : decode cX8_giver 97 = .ok (.iload 5, 2) := by decide +kernel
theorem dX8_giver_99 : decode cX8_giver 99 = .ok (.bipush 7, 2) := by decide +kernel
theorem dX8_giver_101 : decode cX8_giver 101 = .ok (.iadd, 1) := by decide +kernel
theorem dX8_giver_102 : decode cX8_giver 102 = .ok (.iaload, 1) := by decide +kernel
theorem dX8_giver_103 : decode cX8_giver 103 = .ok (.aload_n 0, 1) := by decide +kernel
theorem dX8_giver_104 : decode cX8_giver 104 = .ok (.getfield 7, 3) := by decide +kernel
theorem dX8_giver_107 : decode cX8_giver 107 = .ok (.iload_n 3, 1) := by decide +kernel
theorem dX8_giver_108 : decode cX8_giver 108 = .ok (.invokestatic 48, 3) := by decide +kernel
theorem dX8_giver_111 : decode cX8_giver 111 = .ok (.bipush 7, 2) := by decide +kernel
theorem dX8_giver_113 : decode cX8_giver 113 = .ok (.iadd, 1) := by decide +kernel
theorem dX8_giver_114 : decode cX8_giver 114 = .ok (.iaload, 1) := by decide +kernel
theorem dX8_giver_115 : decode cX8_giver 115 = .ok (.if_icmp .ge 8, 3) := by decide +kernel
theorem dX8_giver_118 : decode cX8_giver 118 = .ok (.iload 4, 2) := by decide +kernel
theorem dX8_giver_120 : decode cX8_giver 120 = .ok (.goto 4, 3) := by decide +kernel
theorem dX8_giver_123 : decode cX8_giver 123 = .ok (.iload_n 3, 1) := by decide +kernel
theorem dX8_giver_124 : decode cX8_giver 124 = .ok (.istore_n 3, 1) := by decide +kernel
theorem dX8_giver_125 : decode cX8_giver 125 = .ok (.iinc 4 1, 3) := by decide +kernel
theorem dX8_giver_128 : decode cX8_giver 128 = .ok (.goto (-123), 3) := by decide +kernel
theorem dX8_giver_131 : decode cX8_giver 131 = .ok (.iload_n 3, 1) := by decide +kernel
theorem dX8_giver_132 : decode cX8_giver 132 = .ok (.ireturn, 1) := by decide +kernel
theorem dX8_comesEdition_0 : decode cX8_comesEdition 0 = .ok (.iconst 0, 1) := by decide +kernel
theorem dX8_comesEdition_1 : decode cX8_comesEdition 1 = .ok (.istore_n 1, 1) := by decide +kernel
theorem dX8_comesEdition_2 : decode cX8_comesEdition 2 = .ok (.iconst 0, 1) := by decide +kernel
theorem dX8_comesEdition_3 : decode cX8_comesEdition 3 = .ok (.istore_n 2, 1) := by decide +kernel
theorem dX8_comesEdition_4 : decode cX8_comesEdition 4 = .ok (.iload_n 2, 1) := by decide +kernel
theorem dX8_comesEdition_5 : decode cX8_comesEdition 5 = .ok (.aload_n 0, 1) := by decide +kernel
theorem dX8_comesEdition_6 : decode cX8_comesEdition 6 = .ok (.getfield 7, 3) := by decide +kernel
theorem dX8_comesEdition_9 : decode cX8_comesEdition 9 = .ok (.iconst 1, 1) := by decide +kernel
theorem dX8_comesEdition_10 : decode cX8_comesEdition 10 = .ok (.iaload, 1) := by decide +kernel
theorem dX8_comesEdition_11 : decode cX8_comesEdition 11 = .ok (.if_icmp .ge 50, 3) := by decide +kernel
theorem dX8_comesEdition_14 : decode cX8_comesEdition 14 = .ok (.iload_n 2, 1) := by decide +kernel
theorem dX8_comesEdition_15 : decode cX8_comesEdition 15 = .ok (.invokestatic 34, 3) := by decide +kernel
theorem dX8_comesEdition_18 : decode cX8_comesEdition 18 = .ok (.istore_n 3, 1) := by decide +kernel
theorem dX8_comesEdition_19 : decode cX8_comesEdition 19 = .ok (.iload_n 1, 1) := by decide +kernel
theorem dX8_comesEdition_20 : decode cX8_comesEdition 20 = .ok (.ifCond .ne 29, 3) := by decide +kernel
theorem dX8_comesEdition_23 : decode cX8_comesEdition 23 = .ok (.aload_n 0, 1) := by decide +kernel
theorem dX8_comesEdition_24 : decode cX8_comesEdition 24 = .ok (.getfield 7, 3) := by decide +kernel
theorem dX8_comesEdition_27 : decode cX8_comesEdition 27 = .ok (.iload_n 3, 1) := by decide +kernel
theorem dX8_comesEdition_28 : decode cX8_comesEdition 28 = .ok (.iconst 1, 1) := by decide +kernel
theorem dX8_comesEdition_29 : decode cX8_comesEdition 29 = .ok (.iadd, 1) := by decide +kernel
theorem dX8_comesEdition_30 : decode cX8_comesEdition 30 = .ok (.iaload, 1) := by decide +kernel
theorem dX8_comesEdition_31 : decode cX8_comesEdition 31 = .ok (.aload_n 0, 1) := by decide +kernel
theorem dX8_comesEdition_32 : decode cX8_comesEdition 32 = .ok (.getfield 7, 3) := by decide +kernel
theorem dX8_comesEdition_35 : decode cX8_comesEdition 35 = .ok (.iload_n 3, 1) := by decide +kernel
theorem dX8_comesEdition_36 : decode cX8_comesEdition 36 = .ok (.iconst 3, 1) := by decide +kernel
theorem dX8_comesEdition_37 : decode cX8_comesEdition 37 = .ok (.iadd, 1) := by decide +kernel
theorem dX8_comesEdition_38 : decode cX8_comesEdition 38 = .ok (.aload_n 0, 1) := by decide +kernel
theorem dX8_comesEdition_39 : decode cX8_comesEdition 39 = .ok (.getfield 7, 3) := by decide +kernel
theorem dX8_comesEdition_42 : decode cX8_comesEdition 42 = .ok (.iconst 2, 1) := by decide +kernel
theorem dX8_comesEdition_43 : decode cX8_comesEdition 43 = .ok (.iaload, 1) := by decide +kernel
theorem dX8_comesEdition_44 : decode cX8_comesEdition 44 = .ok (.iadd, 1) := by decide +kernel
theorem dX8_comesEdition_45 : decode cX8_comesEdition 45 = .ok (.iaload, 1) := by decide +kernel
theorem dX8_comesEdition_46 : decode cX8_comesEdition 46 = .ok (.if_icmp .eq 7, 3) := by decide +kernel
theorem dX8_comesEdition_49 : decode cX8_comesEdition 49 = .ok (.iconst 1, 1) := by decide +kernel
theorem dX8_comesEdition_50 : decode cX8_comesEdition 50 = .ok (.goto 4, 3) := by decide +kernel
theorem dX8_comesEdition_53 : decode cX8_comesEdition 53 = .ok (.iconst 0, 1) := by decide +kernel
theorem dX8_comesEdition_54 : decode cX8_comesEdition 54 = .ok (.istore_n 1, 1) := by decide +kernel
theorem dX8_comesEdition_55 : decode cX8_comesEdition 55 = .ok (.iinc 2 1, 3) := by decide +kernel
theorem dX8_comesEdition_58 : decode cX8_comesEdition 58 = .ok (.goto (-54), 3) := by decide +kernel
theorem dX8_comesEdition_61 : decode cX8_comesEdition 61 = .ok (.iload_n 1, 1) := by decide +kernel
theorem dX8_comesEdition_62 : decode cX8_comesEdition 62 = .ok (.ifCond .ne 4, 3) := by decide +kernel
theorem dX8_comesEdition_65 : decode cX8_comesEdition 65 = .ok (.return_, 1) := by decide +kernel
theorem dX8_comesEdition_66 : decode cX8_comesEdition 66 = .ok (.aload_n 0, 1) := by decide +kernel
theorem dX8_comesEdition_67 : decode cX8_comesEdition 67 = .ok (.getfield 7, 3) := by decide +kernel
theorem dX8_comesEdition_70 : decode cX8_comesEdition 70 = .ok (.iconst 2, 1) := by decide +kernel
theorem dX8_comesEdition_71 : decode cX8_comesEdition 71 = .ok (.dup2, 1) := by decide +kernel
theorem dX8_comesEdition_72 : decode cX8_comesEdition 72 = .ok (.iaload, 1) := by decide +kernel
theorem dX8_comesEdition_73 : decode cX8_comesEdition 73 = .ok (.iconst 1, 1) := by decide +kernel
theorem dX8_comesEdition_74 : decode cX8_comesEdition 74 = .ok (.iadd, 1) := by decide +kernel
theorem dX8_comesEdition_75 : decode cX8_comesEdition 75 = .ok (.iastore, 1) := by decide +kernel
theorem dX8_comesEdition_76 : decode cX8_comesEdition 76 = .ok (.aload_n 0, 1) := by decide +kernel
theorem dX8_comesEdition_77 : decode cX8_comesEdition 77 = .ok (.getfield 7, 3) := by decide +kernel
theorem dX8_comesEdition_80 : decode cX8_comesEdition 80 = .ok (.bipush 11, 2) := by decide +kernel
theorem dX8_comesEdition_82 : decode cX8_comesEdition 82 = .ok (.iconst 1, 1) := by decide +kernel
theorem dX8_comesEdition_83 : decode cX8_comesEdition 83 = .ok (.iastore, 1) := by decide +kernel
theorem dX8_comesEdition_84 : decode cX8_comesEdition 84 = .ok (.iconst 0, 1) := by decide +kernel
theorem dX8_comesEdition_85 : decode cX8_comesEdition 85 = .ok (.istore_n 2, 1) := by decide +kernel
theorem dX8_comesEdition_86 : decode cX8_comesEdition 86 = .ok (.iload_n 2, 1) := by decide +kernel
theorem dX8_comesEdition_87 : decode cX8_comesEdition 87 = .ok (.aload_n 0, 1) := by decide +kernel
theorem dX8_comesEdition_88 : decode cX8_comesEdition 88 = .ok (.getfield 7, 3) := by decide +kernel
theorem dX8_comesEdition_91 : decode cX8_comesEdition 91 = .ok (.iconst 1, 1) := by decide +kernel
theorem dX8_comesEdition_92 : decode cX8_comesEdition 92 = .ok (.iaload, 1) := by decide +kernel
theorem dX8_comesEdition_93 : decode cX8_comesEdition 93 = .ok (.if_icmp .ge 95, 3) := by decide +kernel
theorem dX8_comesEdition_96 : decode cX8_comesEdition 96 = .ok (.iload_n 2, 1) := by decide +kernel
theorem dX8_comesEdition_97 : decode cX8_comesEdition 97 = .ok (.invokestatic 34, 3) := by decide +kernel
theorem dX8_comesEdition_100 : decode cX8_comesEdition 100 = .ok (.istore_n 3, 1) := by decide +kernel
theorem dX8_comesEdition_101 : decode cX8_comesEdition 101 = .ok (.aload_n 0, 1) := by decide +kernel
theorem dX8_comesEdition_102 : decode cX8_comesEdition 102 = .ok (.getfield 7, 3) := by decide +kernel
theorem dX8_comesEdition_105 : decode cX8_comesEdition 105 = .ok (.iload_n 3, 1) := by decide +kernel
theorem dX8_comesEdition_106 : decode cX8_comesEdition 106 = .ok (.iconst 3, 1) := by decide +kernel
theorem dX8_comesEdition_107 : decode cX8_comesEdition 107 = .ok (.iadd, 1) := by decide +kernel
theorem dX8_comesEdition_108 : decode cX8_comesEdition 108 = .ok (.aload_n 0, 1) := by decide +kernel
theorem dX8_comesEdition_109 : decode cX8_comesEdition 109 = .ok (.getfield 7, 3) := by decide +kernel
theorem dX8_comesEdition_112 : decode cX8_comesEdition 112 = .ok (.iconst 2, 1) := by decide +kernel
theorem dX8_comesEdition_113 : decode cX8_comesEdition 113 = .ok (.iaload, 1) := by decide +kernel
theorem dX8_comesEdition_114 : decode cX8_comesEdition 114 = .ok (.iadd, 1) := by decide +kernel
theorem dX8_comesEdition_115 : decode cX8_comesEdition 115 = .ok (.aload_n 0, 1) := by decide +kernel
theorem dX8_comesEdition_116 : decode cX8_comesEdition 116 = .ok (.getfield 7, 3) := by decide +kernel
theorem dX8_comesEdition_119 : decode cX8_comesEdition 119 = .ok (.iload_n 3, 1) := by decide +kernel
theorem dX8_comesEdition_120 : decode cX8_comesEdition 120 = .ok (.iconst 1, 1) := by decide +kernel
theorem dX8_comesEdition_121 : decode cX8_comesEdition 121 = .ok (.iadd, 1) := by decide +kernel
theorem dX8_comesEdition_122 : decode cX8_comesEdition 122 = .ok (.iaload, 1) := by decide +kernel
theorem dX8_comesEdition_123 : decode cX8_comesEdition 123 = .ok (.iastore, 1) := by decide +kernel
theorem dX8_comesEdition_124 : decode cX8_comesEdition 124 = .ok (.aload_n 0, 1) := by decide +kernel
theorem dX8_comesEdition_125 : decode cX8_comesEdition 125 = .ok (.getfield 7, 3) := by decide +kernel
theorem dX8_comesEdition_128 : decode cX8_comesEdition 128 = .ok (.iload_n 3, 1) := by decide +kernel
theorem dX8_comesEdition_129 : decode cX8_comesEdition 129 = .ok (.bipush 17, 2) := by decide +kernel
theorem dX8_comesEdition_131 : decode cX8_comesEdition 131 = .ok (.iadd, 1) := by decide +kernel
theorem dX8_comesEdition_132 : decode cX8_comesEdition 132 = .ok (.aload_n 0, 1) := by decide +kernel
theorem dX8_comesEdition_133 : decode cX8_comesEdition 133 = .ok (.getfield 7, 3) := by decide +kernel
theorem dX8_comesEdition_136 : decode cX8_comesEdition 136 = .ok (.iconst 2, 1) := by decide +kernel
theorem dX8_comesEdition_137 : decode cX8_comesEdition 137 = .ok (.iaload, 1) := by decide +kernel
theorem dX8_comesEdition_138 : decode cX8_comesEdition 138 = .ok (.iadd, 1) := by decide +kernel
theorem dX8_comesEdition_139 : decode cX8_comesEdition 139 = .ok (.aload_n 0, 1) := by decide +kernel
theorem dX8_comesEdition_140 : decode cX8_comesEdition 140 = .ok (.getfield 7, 3) := by decide +kernel
theorem dX8_comesEdition_143 : decode cX8_comesEdition 143 = .ok (.iconst 5, 1) := by decide +kernel
theorem dX8_comesEdition_144 : decode cX8_comesEdition 144 = .ok (.iaload, 1) := by decide +kernel
theorem dX8_comesEdition_145 : decode cX8_comesEdition 145 = .ok (.iastore, 1) := by decide +kernel
theorem dX8_comesEdition_146 : decode cX8_comesEdition 146 = .ok (.aload_n 0, 1) := by decide +kernel
theorem dX8_comesEdition_147 : decode cX8_comesEdition 147 = .ok (.getfield 7, 3) := by decide +kernel
theorem dX8_comesEdition_150 : decode cX8_comesEdition 150 = .ok (.iload_n 3, 1) := by decide +kernel
theorem dX8_comesEdition_151 : decode cX8_comesEdition 151 = .ok (.bipush 31, 2) := by decide +kernel
theorem dX8_comesEdition_153 : decode cX8_comesEdition 153 = .ok (.iadd, 1) := by decide +kernel
theorem dX8_comesEdition_154 : decode cX8_comesEdition 154 = .ok (.aload_n 0, 1) := by decide +kernel
theorem dX8_comesEdition_155 : decode cX8_comesEdition 155 = .ok (.getfield 7, 3) := by decide +kernel
theorem dX8_comesEdition_158 : decode cX8_comesEdition 158 = .ok (.iconst 2, 1) := by decide +kernel
theorem dX8_comesEdition_159 : decode cX8_comesEdition 159 = .ok (.iaload, 1) := by decide +kernel
theorem dX8_comesEdition_160 : decode cX8_comesEdition 160 = .ok (.iadd, 1) := by decide +kernel
theorem dX8_comesEdition_161 : decode cX8_comesEdition 161 = .ok (.aload_n 0, 1) := by decide +kernel
theorem dX8_comesEdition_162 : decode cX8_comesEdition 162 = .ok (.aload_n 0, 1) := by decide +kernel
theorem dX8_comesEdition_163 : decode cX8_comesEdition 163 = .ok (.getfield 7, 3) := by decide +kernel
theorem dX8_comesEdition_166 : decode cX8_comesEdition 166 = .ok (.iload_n 3, 1) := by decide +kernel
theorem dX8_comesEdition_167 : decode cX8_comesEdition 167 = .ok (.iconst 0, 1) := by decide +kernel
theorem dX8_comesEdition_168 : decode cX8_comesEdition 168 = .ok (.iadd, 1) := by decide +kernel
theorem dX8_comesEdition_169 : decode cX8_comesEdition 169 = .ok (.iaload, 1) := by decide +kernel
theorem dX8_comesEdition_170 : decode cX8_comesEdition 170 = .ok (.aload_n 0, 1) := by decide +kernel
theorem dX8_comesEdition_171 : decode cX8_comesEdition 171 = .ok (.getfield 7, 3) := by decide +kernel
theorem dX8_comesEdition_174 : decode cX8_comesEdition 174 = .ok (.iload_n 3, 1) := by decide +kernel
theorem dX8_comesEdition_175 : decode cX8_comesEdition 175 = .ok (.iconst 1, 1) := by decide +kernel
theorem dX8_comesEdition_176 : decode cX8_comesEdition 176 = .ok (.iadd, 1) := by decide +kernel
theorem dX8_comesEdition_177 : decode cX8_comesEdition 177 = .ok (.iaload, 1) := by decide +kernel
theorem dX8_comesEdition_178 : decode cX8_comesEdition 178 = .ok (.invokevirtual 97, 3) := by decide +kernel
theorem dX8_comesEdition_181 : decode cX8_comesEdition 181 = .ok (.iastore, 1) := by decide +kernel
theorem dX8_comesEdition_182 : decode cX8_comesEdition 182 = .ok (.iinc 2 1, 3) := by decide +kernel
theorem dX8_comesEdition_185 : decode cX8_comesEdition 185 = .ok (.goto (-99), 3) := by decide +kernel
theorem dX8_comesEdition_188 : decode cX8_comesEdition 188 = .ok (.return_, 1) := by decide +kernel
theorem dX8_resolve_0 : decode cX8_resolve 0 = .ok (.iload_n 1, 1) := by decide +kernel
theorem dX8_resolve_1 : decode cX8_resolve 1 = .ok (.iconst 0, 1) := by decide +kernel
theorem dX8_resolve_2 : decode cX8_resolve 2 = .ok (.iconst 2, 1) := by decide +kernel
theorem dX8_resolve_3 : decode cX8_resolve 3 = .ok (.invokestatic 23, 3) := by decide +kernel
theorem dX8_resolve_6 : decode cX8_resolve 6 = .ok (.ifCond .eq 19, 3) := by decide +kernel
theorem dX8_resolve_9 : decode cX8_resolve 9 = .ok (.iload_n 2, 1) := by decide +kernel
theorem dX8_resolve_10 : decode cX8_resolve 10 = .ok (.invokestatic 37, 3) := by decide +kernel
theorem dX8_resolve_13 : decode cX8_resolve 13 = .ok (.ifCond .eq 12, 3) := by decide +kernel
theorem dX8_resolve_16 : decode cX8_resolve 16 = .ok (.iload_n 1, 1) := by decide +kernel
theorem dX8_resolve_17 : decode cX8_resolve 17 = .ok (.iconst 1, 1) := by decide +kernel
theorem dX8_resolve_18 : decode cX8_resolve 18 = .ok (.if_icmp .eq 9, 3) := by decide +kernel
theorem dX8_resolve_21 : decode cX8_resolve 21 = .ok (.iload_n 2, 1) := by decide +kernel
theorem dX8_resolve_22 : decode cX8_resolve 22 = .ok (.ifCond .eq 5, 3) := by decide +kernel
theorem dX8_resolve_25 : decode cX8_resolve 25 = .ok (.iconst (-1), 1) := by decide +kernel
theorem dX8_resolve_26 : decode cX8_resolve 26 = .ok (.ireturn, 1) := by decide +kernel
theorem dX8_resolve_27 : decode cX8_resolve 27 = .ok (.aload_n 0, 1) := by decide +kernel
theorem dX8_resolve_28 : decode cX8_resolve 28 = .ok (.invokevirtual 101, 3) := by decide +kernel
theorem dX8_resolve_31 : decode cX8_resolve 31 = .ok (.istore_n 3, 1) := by decide +kernel
theorem dX8_resolve_32 : decode cX8_resolve 32 = .ok (.iload_n 3, 1) := by decide +kernel
theorem dX8_resolve_33 : decode cX8_resolve 33 = .ok (.ifCond .ge 6, 3) := by decide +kernel
theorem dX8_resolve_36 : decode cX8_resolve 36 = .ok (.bipush (-2), 2) := by decide +kernel
theorem dX8_resolve_38 : decode cX8_resolve 38 = .ok (.ireturn, 1) := by decide +kernel
theorem dX8_resolve_39 : decode cX8_resolve 39 = .ok (.iload_n 3, 1) := by decide +kernel
theorem dX8_resolve_40 : decode cX8_resolve 40 = .ok (.invokestatic 48, 3) := by decide +kernel
theorem dX8_resolve_43 : decode cX8_resolve 43 = .ok (.istore 4, 2) := by decide +kernel
theorem dX8_resolve_45 : decode cX8_resolve 45 = .ok (.aload_n 0, 1) := by decide +kernel
theorem dX8_resolve_46 : decode cX8_resolve 46 = .ok (.aload_n 0, 1) := by decide +kernel
theorem dX8_resolve_47 : decode cX8_resolve 47 = .ok (.getfield 7, 3) := by decide +kernel
theorem dX8_resolve_50 : decode cX8_resolve 50 = .ok (.iload 4, 2) := by decide +kernel
theorem dX8_resolve_52 : decode cX8_resolve 52 = .ok (.iconst 1, 1) := by decide +kernel
theorem dX8_resolve_53 : decode cX8_resolve 53 = .ok (.iadd, 1) := by decide +kernel
theorem dX8_resolve_54 : decode cX8_resolve 54 = .ok (.iaload, 1) := by decide +kernel
theorem dX8_resolve_55 : decode cX8_resolve 55 = .ok (.invokevirtual 41, 3) := by decide +kernel
theorem dX8_resolve_58 : decode cX8_resolve 58 = .ok (.istore 5, 2) := by decide +kernel
theorem dX8_resolve_60 : decode cX8_resolve 60 = .ok (.iload_n 1, 1) := by decide +kernel
theorem dX8_resolve_61 : decode cX8_resolve 61 = .ok (.ifCond .ne 15, 3) := by decide +kernel
theorem dX8_resolve_64 : decode cX8_resolve 64 = .ok (.aload_n 0, 1) := by decide +kernel
theorem dX8_resolve_65 : decode cX8_resolve 65 = .ok (.getfield 7, 3) := by decide +kernel
theorem dX8_resolve_68 : decode cX8_resolve 68 = .ok (.iload 4, 2) := by decide +kernel
theorem dX8_resolve_70 : decode cX8_resolve 70 = .ok (.iconst 3, 1) := by decide +kernel
theorem dX8_resolve_71 : decode cX8_resolve 71 = .ok (.iadd, 1) := by decide +kernel
theorem dX8_resolve_72 : decode cX8_resolve 72 = .ok (.iaload, 1) := by decide +kernel
theorem dX8_resolve_73 : decode cX8_resolve 73 = .ok (.goto 4, 3) := by decide +kernel
theorem dX8_resolve_76 : decode cX8_resolve 76 = .ok (.iload_n 2, 1) := by decide +kernel
theorem dX8_resolve_77 : decode cX8_resolve 77 = .ok (.istore 6, 2) := by decide +kernel
theorem dX8_resolve_79 : decode cX8_resolve 79 = .ok (.iload_n 1, 1) := by decide +kernel
theorem dX8_resolve_80 : decode cX8_resolve 80 = .ok (.iconst 2, 1) := by decide +kernel
theorem dX8_resolve_81 : decode cX8_resolve 81 = .ok (.if_icmp .ge 17, 3) := by decide +kernel
theorem dX8_resolve_84 : decode cX8_resolve 84 = .ok (.aload_n 0, 1) := by decide +kernel
theorem dX8_resolve_85 : decode cX8_resolve 85 = .ok (.iload 5, 2) := by decide +kernel
theorem dX8_resolve_87 : decode cX8_resolve 87 = .ok (.iload 6, 2) := by decide +kernel
theorem dX8_resolve_89 : decode cX8_resolve 89 = .ok (.invokevirtual 104, 3) := by decide +kernel
theorem dX8_resolve_92 : decode cX8_resolve 92 = .ok (.ifCond .ne 6, 3) := by decide +kernel
theorem dX8_resolve_95 : decode cX8_resolve 95 = .ok (.bipush (-2), 2) := by decide +kernel
theorem dX8_resolve_97 : decode cX8_resolve 97 = .ok (.ireturn, 1) := by decide +kernel
theorem dX8_resolve_98 : decode cX8_resolve 98 = .ok (.aload_n 0, 1) := by decide +kernel
theorem dX8_resolve_99 : decode cX8_resolve 99 = .ok (.invokevirtual 31, 3) := by decide +kernel
theorem dX8_resolve_102 : decode cX8_resolve 102 = .ok (.aload_n 0, 1) := by decide +kernel
theorem dX8_resolve_103 : decode cX8_resolve 103 = .ok (.getfield 7, 3) := by decide +kernel
theorem dX8_resolve_106 : decode cX8_resolve 106 = .ok (.iload 4, 2) := by decide +kernel
theorem dX8_resolve_108 : decode cX8_resolve 108 = .ok (.iconst 4, 1) := by decide +kernel
theorem dX8_resolve_109 : decode cX8_resolve 109 = .ok (.iadd, 1) := by decide +kernel
theorem dX8_resolve_110 : decode cX8_resolve 110 = .ok (.iconst 2, 1) := by decide +kernel
theorem dX8_resolve_111 : decode cX8_resolve 111 = .ok (.iload_n 1, 1) := by decide +kernel
theorem dX8_resolve_112 : decode cX8_resolve 112 = .ok (.iadd, 1) := by decide +kernel
theorem dX8_resolve_113 : decode cX8_resolve 113 = .ok (.iastore, 1) := by decide +kernel
theorem dX8_resolve_114 : decode cX8_resolve 114 = .ok (.aload_n 0, 1) := by decide +kernel
theorem dX8_resolve_115 : decode cX8_resolve 115 = .ok (.getfield 7, 3) := by decide +kernel
theorem dX8_resolve_118 : decode cX8_resolve 118 = .ok (.iload 4, 2) := by decide +kernel
theorem dX8_resolve_120 : decode cX8_resolve 120 = .ok (.iconst 5, 1) := by decide +kernel
theorem dX8_resolve_121 : decode cX8_resolve 121 = .ok (.iadd, 1) := by decide +kernel
theorem dX8_resolve_122 : decode cX8_resolve 122 = .ok (.aload_n 0, 1) := by decide +kernel
theorem dX8_resolve_123 : decode cX8_resolve 123 = .ok (.getfield 7, 3) := by decide +kernel
theorem dX8_resolve_126 : decode cX8_resolve 126 = .ok (.iconst 3, 1) := by decide +kernel
theorem dX8_resolve_127 : decode cX8_resolve 127 = .ok (.iaload, 1) := by decide +kernel
theorem dX8_resolve_128 : decode cX8_resolve 128 = .ok (.iastore, 1) := by decide +kernel
theorem dX8_resolve_129 : decode cX8_resolve 129 = .ok (.aload_n 0, 1) := by decide +kernel
theorem dX8_resolve_130 : decode cX8_resolve 130 = .ok (.getfield 7, 3) := by decide +kernel
theorem dX8_resolve_133 : decode cX8_resolve 133 = .ok (.iload 4, 2) := by decide +kernel
theorem dX8_resolve_135 : decode cX8_resolve 135 = .ok (.bipush 7, 2) := by decide +kernel
theorem dX8_resolve_137 : decode cX8_resolve 137 = .ok (.iadd, 1) := by decide +kernel
theorem dX8_resolve_138 : decode cX8_resolve 138 = .ok (.aload_n 0, 1) := by decide +kernel
theorem dX8_resolve_139 : decode cX8_resolve 139 = .ok (.getfield 7, 3) := by decide +kernel
theorem dX8_resolve_142 : decode cX8_resolve 142 = .ok (.bipush 10, 2) := by decide +kernel
theorem dX8_resolve_144 : decode cX8_resolve 144 = .ok (.iaload, 1) := by decide +kernel
theorem dX8_resolve_145 : decode cX8_resolve 145 = .ok (.iastore, 1) := by decide +kernel
theorem dX8_resolve_146 : decode cX8_resolve 146 = .ok (.aload_n 0, 1) := by decide +kernel
theorem dX8_resolve_147 : decode cX8_resolve 147 = .ok (.getfield 7, 3) := by decide +kernel
theorem dX8_resolve_150 : decode cX8_resolve 150 = .ok (.bipush 10, 2) := by decide +kernel
theorem dX8_resolve_152 : decode cX8_resolve 152 = .ok (.dup2, 1) := by decide +kernel
theorem dX8_resolve_153 : decode cX8_resolve 153 = .ok (.iaload, 1) := by decide +kernel
theorem dX8_resolve_154 : decode cX8_resolve 154 = .ok (.iconst 1, 1) := by decide +kernel
theorem dX8_resolve_155 : decode cX8_resolve 155 = .ok (.iadd, 1) := by decide +kernel
theorem dX8_resolve_156 : decode cX8_resolve 156 = .ok (.iastore, 1) := by decide +kernel
theorem dX8_resolve_157 : decode cX8_resolve 157 = .ok (.iload_n 1, 1) := by decide +kernel
theorem dX8_resolve_158 : decode cX8_resolve 158 = .ok (.iconst 2, 1) := by decide +kernel
theorem dX8_resolve_159 : decode cX8_resolve 159 = .ok (.if_icmp .ge 29, 3) := by decide +kernel
theorem dX8_resolve_162 : decode cX8_resolve 162 = .ok (.aload_n 0, 1) := by decide +kernel
theorem dX8_resolve_163 : decode cX8_resolve 163 = .ok (.getfield 7, 3) := by decide +kernel
theorem dX8_resolve_166 : decode cX8_resolve 166 = .ok (.iload 4, 2) := by decide +kernel
theorem dX8_resolve_168 : decode cX8_resolve 168 = .ok (.bipush 6, 2) := by decide +kernel
theorem dX8_resolve_170 : decode cX8_resolve 170 = .ok (.iadd, 1) := by decide +kernel
theorem dX8_resolve_171 : decode cX8_resolve 171 = .ok (.iload 6, 2) := by decide +kernel
theorem dX8_resolve_173 : decode cX8_resolve 173 = .ok (.iastore, 1) := by decide +kernel
theorem dX8_resolve_174 : decode cX8_resolve 174 = .ok (.aload_n 0, 1) := by decide +kernel
theorem dX8_resolve_175 : decode cX8_resolve 175 = .ok (.getfield 7, 3) := by decide +kernel
theorem dX8_resolve_178 : decode cX8_resolve 178 = .ok (.iload 5, 2) := by decide +kernel
theorem dX8_resolve_180 : decode cX8_resolve 180 = .ok (.invokestatic 34, 3) := by decide +kernel
theorem dX8_resolve_183 : decode cX8_resolve 183 = .ok (.iconst 1, 1) := by decide +kernel
theorem dX8_resolve_184 : decode cX8_resolve 184 = .ok (.iadd, 1) := by decide +kernel
theorem dX8_resolve_185 : decode cX8_resolve 185 = .ok (.iload 6, 2) := by decide +kernel
theorem dX8_resolve_187 : decode cX8_resolve 187 = .ok (.iastore, 1) := by decide +kernel
theorem dX8_resolve_188 : decode cX8_resolve 188 = .ok (.aload_n 0, 1) := by decide +kernel
theorem dX8_resolve_189 : decode cX8_resolve 189 = .ok (.invokevirtual 63, 3) := by decide +kernel
theorem dX8_resolve_192 : decode cX8_resolve 192 = .ok (.istore 7, 2) := by decide +kernel
theorem dX8_resolve_194 : decode cX8_resolve 194 = .ok (.iload 7, 2) := by decide +kernel
theorem dX8_resolve_196 : decode cX8_resolve 196 = .ok (.ifCond .ne 7, 3) := by decide +kernel
theorem dX8_resolve_199 : decode cX8_resolve 199 = .ok (.aload_n 0, 1) := by decide +kernel
theorem dX8_resolve_200 : decode cX8_resolve 200 = .ok (.invokevirtual 107, 3) := by decide +kernel
theorem dX8_resolve_203 : decode cX8_resolve 203 = .ok (.iload 7, 2) := by decide +kernel
theorem dX8_resolve_205 : decode cX8_resolve 205 = .ok (.ireturn, 1) := by decide +kernel
theorem dX8_reopens_0 : decode cX8_reopens 0 = .ok (.iload_n 1, 1) := by decide +kernel
theorem dX8_reopens_1 : decode cX8_reopens 1 = .ok (.invokestatic 48, 3) := by decide +kernel
theorem dX8_reopens_4 : decode cX8_reopens 4 = .ok (.istore_n 2, 1) := by decide +kernel
theorem dX8_reopens_5 : decode cX8_reopens 5 = .ok (.aload_n 0, 1) := by decide +kernel
theorem dX8_reopens_6 : decode cX8_reopens 6 = .ok (.getfield 7, 3) := by decide +kernel
theorem dX8_reopens_9 : decode cX8_reopens 9 = .ok (.iload_n 2, 1) := by decide +kernel
theorem dX8_reopens_10 : decode cX8_reopens 10 = .ok (.iconst 4, 1) := by decide +kernel
theorem dX8_reopens_11 : decode cX8_reopens 11 = .ok (.iadd, 1) := by decide +kernel
theorem dX8_reopens_12 : decode cX8_reopens 12 = .ok (.iaload, 1) := by decide +kernel
theorem dX8_reopens_13 : decode cX8_reopens 13 = .ok (.istore_n 3, 1) := by decide +kernel
theorem dX8_reopens_14 : decode cX8_reopens 14 = .ok (.aload_n 0, 1) := by decide +kernel
theorem dX8_reopens_15 : decode cX8_reopens 15 = .ok (.getfield 7, 3) := by decide +kernel
theorem dX8_reopens_18 : decode cX8_reopens 18 = .ok (.iload_n 2, 1) := by decide +kernel
theorem dX8_reopens_19 : decode cX8_reopens 19 = .ok (.iconst 1, 1) := by decide +kernel
theorem dX8_reopens_20 : decode cX8_reopens 20 = .ok (.iadd, 1) := by decide +kernel
theorem dX8_reopens_21 : decode cX8_reopens 21 = .ok (.iaload, 1) := by decide +kernel
theorem dX8_reopens_22 : decode cX8_reopens 22 = .ok (.istore 4, 2) := by decide +kernel
theorem dX8_reopens_24 : decode cX8_reopens 24 = .ok (.aload_n 0, 1) := by decide +kernel
theorem dX8_reopens_25 : decode cX8_reopens 25 = .ok (.iload 4, 2) := by decide +kernel
theorem dX8_reopens_27 : decode cX8_reopens 27 = .ok (.invokevirtual 41, 3) := by decide +kernel
theorem dX8_reopens_30 : decode cX8_reopens 30 = .ok (.invokestatic 34, 3) := by decide +kernel
theorem dX8_reopens_33 : decode cX8_reopens 33 = .ok (.istore 5, 2) := by decide +kernel
theorem dX8_reopens_35 : decode cX8_reopens 35 = .ok (.aload_n 0, 1) := by decide +kernel
theorem dX8_reopens_36 : decode cX8_reopens 36 = .ok (.getfield 7, 3) := by decide +kernel
theorem dX8_reopens_39 : decode cX8_reopens 39 = .ok (.iload_n 2, 1) := by decide +kernel
theorem dX8_reopens_40 : decode cX8_reopens 40 = .ok (.iconst 4, 1) := by decide +kernel
theorem dX8_reopens_41 : decode cX8_reopens 41 = .ok (.iadd, 1) := by decide +kernel
theorem dX8_reopens_42 : decode cX8_reopens 42 = .ok (.iconst 1, 1) := by decide +kernel
theorem dX8_reopens_43 : decode cX8_reopens 43 = .ok (.iastore, 1) := by decide +kernel
theorem dX8_reopens_44 : decode cX8_reopens 44 = .ok (.iload_n 3, 1) := by decide +kernel
theorem dX8_reopens_45 : decode cX8_reopens 45 = .ok (.iconst 4, 1) := by decide +kernel
theorem dX8_reopens_46 : decode cX8_reopens 46 = .ok (.if_icmp .ge 39, 3) := by decide +kernel
theorem dX8_reopens_49 : decode cX8_reopens 49 = .ok (.aload_n 0, 1) := by decide +kernel
theorem dX8_reopens_50 : decode cX8_reopens 50 = .ok (.iload 4, 2) := by decide +kernel
theorem dX8_reopens_52 : decode cX8_reopens 52 = .ok (.aload_n 0, 1) := by decide +kernel
theorem dX8_reopens_53 : decode cX8_reopens 53 = .ok (.getfield 7, 3) := by decide +kernel
theorem dX8_reopens_56 : decode cX8_reopens 56 = .ok (.iload 5, 2) := by decide +kernel
theorem dX8_reopens_58 : decode cX8_reopens 58 = .ok (.iconst 1, 1) := by decide +kernel
theorem dX8_reopens_59 : decode cX8_reopens 59 = .ok (.iadd, 1) := by decide +kernel
theorem dX8_reopens_60 : decode cX8_reopens 60 = .ok (.iaload, 1) := by decide +kernel
theorem dX8_reopens_61 : decode cX8_reopens 61 = .ok (.invokevirtual 97, 3) := by decide +kernel
theorem dX8_reopens_64 : decode cX8_reopens 64 = .ok (.ifCond .ge 21, 3) := by decide +kernel
theorem dX8_reopens_67 : decode cX8_reopens 67 = .ok (.aload_n 0, 1) := by decide +kernel
theorem dX8_reopens_68 : decode cX8_reopens 68 = .ok (.getfield 7, 3) := by decide +kernel
theorem dX8_reopens_71 : decode cX8_reopens 71 = .ok (.iload 5, 2) := by decide +kernel
theorem dX8_reopens_73 : decode cX8_reopens 73 = .ok (.iconst 1, 1) := by decide +kernel
theorem dX8_reopens_74 : decode cX8_reopens 74 = .ok (.iadd, 1) := by decide +kernel
theorem dX8_reopens_75 : decode cX8_reopens 75 = .ok (.aload_n 0, 1) := by decide +kernel
theorem dX8_reopens_76 : decode cX8_reopens 76 = .ok (.getfield 7, 3) := by decide +kernel
theorem dX8_reopens_79 : decode cX8_reopens 79 = .ok (.iload 5, 2) := by decide +kernel
theorem dX8_reopens_81 : decode cX8_reopens 81 = .ok (.iconst 2, 1) := by decide +kernel
theorem dX8_reopens_82 : decode cX8_reopens 82 = .ok (.iadd, 1) := by decide +kernel
theorem dX8_reopens_83 : decode cX8_reopens 83 = .ok (.iaload, 1) := by decide +kernel
theorem dX8_reopens_84 : decode cX8_reopens 84 = .ok (.iastore, 1) := by decide +kernel
theorem dX8_reopens_85 : decode cX8_reopens 85 = .ok (.aload_n 0, 1) := by decide +kernel
theorem dX8_reopens_86 : decode cX8_reopens 86 = .ok (.getfield 7, 3) := by decide +kernel
theorem dX8_reopens_89 : decode cX8_reopens 89 = .ok (.bipush 11, 2) := by decide +kernel
theorem dX8_reopens_91 : decode cX8_reopens 91 = .ok (.iaload, 1) := by decide +kernel
theorem dX8_reopens_92 : decode cX8_reopens 92 = .ok (.iconst 1, 1) := by decide +kernel
theorem dX8_reopens_93 : decode cX8_reopens 93 = .ok (.if_icmp .ne 21, 3) := by decide +kernel
theorem dX8_reopens_96 : decode cX8_reopens 96 = .ok (.aload_n 0, 1) := by decide +kernel
theorem dX8_reopens_97 : decode cX8_reopens 97 = .ok (.getfield 7, 3) := by decide +kernel
theorem dX8_reopens_100 : decode cX8_reopens 100 = .ok (.bipush 11, 2) := by decide +kernel
theorem dX8_reopens_102 : decode cX8_reopens 102 = .ok (.iconst 0, 1) := by decide +kernel
theorem dX8_reopens_103 : decode cX8_reopens 103 = .ok (.iastore, 1) := by decide +kernel
theorem dX8_reopens_104 : decode cX8_reopens 104 = .ok (.aload_n 0, 1) := by decide +kernel
theorem dX8_reopens_105 : decode cX8_reopens 105 = .ok (.getfield 7, 3) := by decide +kernel
theorem dX8_reopens_108 : decode cX8_reopens 108 = .ok (.iconst 2, 1) := by decide +kernel
theorem dX8_reopens_109 : decode cX8_reopens 109 = .ok (.dup2, 1) := by decide +kernel
theorem dX8_reopens_110 : decode cX8_reopens 110 = .ok (.iaload, 1) := by decide +kernel
theorem dX8_reopens_111 : decode cX8_reopens 111 = .ok (.iconst 1, 1) := by decide +kernel
theorem dX8_reopens_112 : decode cX8_reopens 112 = .ok (.isub, 1) := by decide +kernel
theorem dX8_reopens_113 : decode cX8_reopens 113 = .ok (.iastore, 1) := by decide +kernel
theorem dX8_reopens_114 : decode cX8_reopens 114 = .ok (.return_, 1) := by decide +kernel
theorem dX8_appeal_0 : decode cX8_appeal 0 = .ok (.aload_n 0, 1) := by decide +kernel
theorem dX8_appeal_1 : decode cX8_appeal 1 = .ok (.iload_n 1, 1) := by decide +kernel
theorem dX8_appeal_2 : decode cX8_appeal 2 = .ok (.invokevirtual 91, 3) := by decide +kernel
theorem dX8_appeal_5 : decode cX8_appeal 5 = .ok (.ifCond .eq 39, 3) := by decide +kernel
theorem dX8_appeal_8 : decode cX8_appeal 8 = .ok (.aload_n 0, 1) := by decide +kernel
theorem dX8_appeal_9 : decode cX8_appeal 9 = .ok (.iload_n 2, 1) := by decide +kernel
theorem dX8_appeal_10 : decode cX8_appeal 10 = .ok (.invokevirtual 51, 3) := by decide +kernel
theorem dX8_appeal_13 : decode cX8_appeal 13 = .ok (.ifCond .eq 31, 3) := by decide +kernel
theorem dX8_appeal_16 : decode cX8_appeal 16 = .ok (.iload_n 3, 1) := by decide +kernel
theorem dX8_appeal_17 : decode cX8_appeal 17 = .ok (.ifCond .lt 27, 3) := by decide +kernel
theorem dX8_appeal_20 : decode cX8_appeal 20 = .ok (.iload_n 3, 1) := by decide +kernel
theorem dX8_appeal_21 : decode cX8_appeal 21 = .ok (.aload_n 0, 1) := by decide +kernel
theorem dX8_appeal_22 : decode cX8_appeal 22 = .ok (.getfield 7, 3) := by decide +kernel
theorem dX8_appeal_25 : decode cX8_appeal 25 = .ok (.iconst 0, 1) := by decide +kernel
theorem dX8_appeal_26 : decode cX8_appeal 26 = .ok (.iaload, 1) := by decide +kernel
theorem dX8_appeal_27 : decode cX8_appeal 27 = .ok (.ishr, 1) := by decide +kernel
theorem dX8_appeal_28 : decode cX8_appeal 28 = .ok (.ifCond .ne 16, 3) := by decide +kernel
theorem dX8_appeal_31 : decode cX8_appeal 31 = .ok (.iload_n 3, 1) := by decide +kernel
theorem dX8_appeal_32 : decode cX8_appeal 32 = .ok (.iload_n 2, 1) := by decide +kernel
theorem dX8_appeal_33 : decode cX8_appeal 33 = .ok (.ishr, 1) := by decide +kernel
theorem dX8_appeal_34 : decode cX8_appeal 34 = .ok (.iconst 1, 1) := by decide +kernel
theorem dX8_appeal_35 : decode cX8_appeal 35 = .ok (.iand, 1) := by decide +kernel
theorem dX8_appeal_36 : decode cX8_appeal 36 = .ok (.iconst 1, 1) := by decide +kernel
theorem dX8_appeal_37 : decode cX8_appeal 37 = .ok (.if_icmp .ne 7, 3) := by decide +kernel
theorem dX8_appeal_40 : decode cX8_appeal 40 = .ok (.iconst 1, 1) := by decide +kernel
theorem dX8_appeal_41 : decode cX8_appeal 41 = .ok (.goto 4, 3) := by decide +kernel
theorem dX8_appeal_44 : decode cX8_appeal 44 = .ok (.iconst 0, 1) := by decide +kernel
theorem dX8_appeal_45 : decode cX8_appeal 45 = .ok (.istore 4, 2) := by decide +kernel
theorem dX8_appeal_47 : decode cX8_appeal 47 = .ok (.iload 4, 2) := by decide +kernel
theorem dX8_appeal_49 : decode cX8_appeal 49 = .ok (.ifCond .ne 5, 3) := by decide +kernel
theorem dX8_appeal_52 : decode cX8_appeal 52 = .ok (.iconst (-1), 1) := by decide +kernel
theorem dX8_appeal_53 : decode cX8_appeal 53 = .ok (.ireturn, 1) := by decide +kernel
theorem dX8_appeal_54 : decode cX8_appeal 54 = .ok (.iload_n 1, 1) := by decide +kernel
theorem dX8_appeal_55 : decode cX8_appeal 55 = .ok (.invokestatic 48, 3) := by decide +kernel
theorem dX8_appeal_58 : decode cX8_appeal 58 = .ok (.istore 5, 2) := by decide +kernel
theorem dX8_appeal_60 : decode cX8_appeal 60 = .ok (.aload_n 0, 1) := by decide +kernel
theorem dX8_appeal_61 : decode cX8_appeal 61 = .ok (.getfield 7, 3) := by decide +kernel
theorem dX8_appeal_64 : decode cX8_appeal 64 = .ok (.iconst 4, 1) := by decide +kernel
theorem dX8_appeal_65 : decode cX8_appeal 65 = .ok (.iaload, 1) := by decide +kernel
theorem dX8_appeal_66 : decode cX8_appeal 66 = .ok (.iconst 1, 1) := by decide +kernel
theorem dX8_appeal_67 : decode cX8_appeal 67 = .ok (.if_icmp .eq 42, 3) := by decide +kernel
theorem dX8_appeal_70 : decode cX8_appeal 70 = .ok (.aload_n 0, 1) := by decide +kernel
theorem dX8_appeal_71 : decode cX8_appeal 71 = .ok (.getfield 7, 3) := by decide +kernel
theorem dX8_appeal_74 : decode cX8_appeal 74 = .ok (.iload 5, 2) := by decide +kernel
theorem dX8_appeal_76 : decode cX8_appeal 76 = .ok (.iconst 4, 1) := by decide +kernel
theorem dX8_appeal_77 : decode cX8_appeal 77 = .ok (.iadd, 1) := by decide +kernel
theorem dX8_appeal_78 : decode cX8_appeal 78 = .ok (.iaload, 1) := by decide +kernel
theorem dX8_appeal_79 : decode cX8_appeal 79 = .ok (.iconst 2, 1) := by decide +kernel
theorem dX8_appeal_80 : decode cX8_appeal 80 = .ok (.if_icmp .lt 29, 3) := by decide +kernel
theorem dX8_appeal_83 : decode cX8_appeal 83 = .ok (.aload_n 0, 1) := by decide +kernel
theorem dX8_appeal_84 : decode cX8_appeal 84 = .ok (.getfield 7, 3) := by decide +kernel
theorem dX8_appeal_87 : decode cX8_appeal 87 = .ok (.iconst 3, 1) := by decide +kernel
theorem dX8_appeal_88 : decode cX8_appeal 88 = .ok (.iaload, 1) := by decide +kernel
theorem dX8_appeal_89 : decode cX8_appeal 89 = .ok (.aload_n 0, 1) := by decide +kernel
theorem dX8_appeal_90 : decode cX8_appeal 90 = .ok (.getfield 7, 3) := by decide +kernel
theorem dX8_appeal_93 : decode cX8_appeal 93 = .ok (.iload 5, 2) := by decide +kernel
theorem dX8_appeal_95 : decode cX8_appeal 95 = .ok (.iconst 5, 1) := by decide +kernel
theorem dX8_appeal_96 : decode cX8_appeal 96 = .ok (.iadd, 1) := by decide +kernel
theorem dX8_appeal_97 : decode cX8_appeal 97 = .ok (.iaload, 1) := by decide +kernel
theorem dX8_appeal_98 : decode cX8_appeal 98 = .ok (.aload_n 0, 1) := by decide +kernel
theorem dX8_appeal_99 : decode cX8_appeal 99 = .ok (.getfield 7, 3) := by decide +kernel
theorem dX8_appeal_102 : decode cX8_appeal 102 = .ok (.bipush 15, 2) := by decide +kernel
theorem dX8_appeal_104 : decode cX8_appeal 104 = .ok (.iaload, 1) := by decide +kernel
theorem dX8_appeal_105 : decode cX8_appeal 105 = .ok (.iadd, 1) := by decide +kernel
theorem dX8_appeal_106 : decode cX8_appeal 106 = .ok (.if_icmp .le 6, 3) := by decide +kernel
theorem dX8_appeal_109 : decode cX8_appeal 109 = .ok (.bipush (-2), 2) := by decide +kernel
theorem dX8_appeal_111 : decode cX8_appeal 111 = .ok (.ireturn, 1) := by decide +kernel
theorem dX8_appeal_112 : decode cX8_appeal 112 = .ok (.aload_n 0, 1) := by decide +kernel
theorem dX8_appeal_113 : decode cX8_appeal 113 = .ok (.invokevirtual 31, 3) := by decide +kernel
theorem dX8_appeal_116 : decode cX8_appeal 116 = .ok (.iconst 0, 1) := by decide +kernel
theorem dX8_appeal_117 : decode cX8_appeal 117 = .ok (.istore 6, 2) := by decide +kernel
theorem dX8_appeal_119 : decode cX8_appeal 119 = .ok (.iconst 0, 1) := by decide +kernel
theorem dX8_appeal_120 : decode cX8_appeal 120 = .ok (.istore 7, 2) := by decide +kernel
theorem dX8_appeal_122 : decode cX8_appeal 122 = .ok (.iload 7, 2) := by decide +kernel
theorem dX8_appeal_124 : decode cX8_appeal 124 = .ok (.aload_n 0, 1) := by decide +kernel
theorem dX8_appeal_125 : decode cX8_appeal 125 = .ok (.getfield 7, 3) := by decide +kernel
theorem dX8_appeal_128 : decode cX8_appeal 128 = .ok (.iconst 0, 1) := by decide +kernel
theorem dX8_appeal_129 : decode cX8_appeal 129 = .ok (.iaload, 1) := by decide +kernel
theorem dX8_appeal_130 : decode cX8_appeal 130 = .ok (.if_icmp .ge 49, 3) := by decide +kernel
theorem dX8_appeal_133 : decode cX8_appeal 133 = .ok (.iload 6, 2) := by decide +kernel
theorem dX8_appeal_135 : decode cX8_appeal 135 = .ok (.iload_n 3, 1) := by decide +kernel
theorem dX8_appeal_136 : decode cX8_appeal 136 = .ok (.iload 7, 2) := by decide +kernel
theorem dX8_appeal_138 : decode cX8_appeal 138 = .ok (.ishr, 1) := by decide +kernel
theorem dX8_appeal_139 : decode cX8_appeal 139 = .ok (.iconst 1, 1) := by decide +kernel
theorem dX8_appeal_140 : decode cX8_appeal 140 = .ok (.iand, 1) := by decide +kernel
theorem dX8_appeal_141 : decode cX8_appeal 141 = .ok (.iconst 1, 1) := by decide +kernel
theorem dX8_appeal_142 : decode cX8_appeal 142 = .ok (.if_icmp .ne 27, 3) := by decide +kernel
theorem dX8_appeal_145 : decode cX8_appeal 145 = .ok (.aload_n 0, 1) := by decide +kernel
theorem dX8_appeal_146 : decode cX8_appeal 146 = .ok (.iload 7, 2) := by decide +kernel
theorem dX8_appeal_148 : decode cX8_appeal 148 = .ok (.invokevirtual 54, 3) := by decide +kernel
theorem dX8_appeal_151 : decode cX8_appeal 151 = .ok (.ifCond .ne 18, 3) := by decide +kernel
theorem dX8_appeal_154 : decode cX8_appeal 154 = .ok (.aload_n 0, 1) := by decide +kernel
theorem dX8_appeal_155 : decode cX8_appeal 155 = .ok (.getfield 7, 3) := by decide +kernel
theorem dX8_appeal_158 : decode cX8_appeal 158 = .ok (.iload 7, 2) := by decide +kernel
theorem dX8_appeal_160 : decode cX8_appeal 160 = .ok (.invokestatic 27, 3) := by decide +kernel
theorem dX8_appeal_163 : decode cX8_appeal 163 = .ok (.iconst 0, 1) := by decide +kernel
theorem dX8_appeal_164 : decode cX8_appeal 164 = .ok (.iadd, 1) := by decide +kernel
theorem dX8_appeal_165 : decode cX8_appeal 165 = .ok (.iaload, 1) := by decide +kernel
theorem dX8_appeal_166 : decode cX8_appeal 166 = .ok (.goto 4, 3) := by decide +kernel
theorem dX8_appeal_169 : decode cX8_appeal 169 = .ok (.iconst 0, 1) := by decide +kernel
theorem dX8_appeal_170 : decode cX8_appeal 170 = .ok (.iadd, 1) := by decide +kernel
theorem dX8_appeal_171 : decode cX8_appeal 171 = .ok (.istore 6, 2) := by decide +kernel
theorem dX8_appeal_173 : decode cX8_appeal 173 = .ok (.iinc 7 1, 3) := by decide +kernel
theorem dX8_appeal_176 : decode cX8_appeal 176 = .ok (.goto (-54), 3) := by decide +kernel
theorem dX8_appeal_179 : decode cX8_appeal 179 = .ok (.iconst 2, 1) := by decide +kernel
theorem dX8_appeal_180 : decode cX8_appeal 180 = .ok (.iload 6, 2) := by decide +kernel
theorem dX8_appeal_182 : decode cX8_appeal 182 = .ok (.imul, 1) := by decide +kernel
theorem dX8_appeal_183 : decode cX8_appeal 183 = .ok (.aload_n 0, 1) := by decide +kernel
theorem dX8_appeal_184 : decode cX8_appeal 184 = .ok (.invokevirtual 67, 3) := by decide +kernel
theorem dX8_appeal_187 : decode cX8_appeal 187 = .ok (.if_icmp .gt 5, 3) := by decide +kernel
theorem dX8_appeal_190 : decode cX8_appeal 190 = .ok (.iconst 0, 1) := by decide +kernel
theorem dX8_appeal_191 : decode cX8_appeal 191 = .ok (.ireturn, 1) := by decide +kernel
theorem dX8_appeal_192 : decode cX8_appeal 192 = .ok (.aload_n 0, 1) := by decide +kernel
theorem dX8_appeal_193 : decode cX8_appeal 193 = .ok (.iload_n 1, 1) := by decide +kernel
theorem dX8_appeal_194 : decode cX8_appeal 194 = .ok (.invokevirtual 110, 3) := by decide +kernel
theorem dX8_appeal_197 : decode cX8_appeal 197 = .ok (.iconst 1, 1) := by decide +kernel
theorem dX8_appeal_198 : decode cX8_appeal 198 = .ok (.ireturn, 1) := by decide +kernel
theorem dX8_isChanged_0 : decode cX8_isChanged 0 = .ok (.iload_n 1, 1) := by decide +kernel
theorem dX8_isChanged_1 : decode cX8_isChanged 1 = .ok (.invokestatic 34, 3) := by decide +kernel
theorem dX8_isChanged_4 : decode cX8_isChanged 4 = .ok (.iconst 3, 1) := by decide +kernel
theorem dX8_isChanged_5 : decode cX8_isChanged 5 = .ok (.iadd, 1) := by decide +kernel
theorem dX8_isChanged_6 : decode cX8_isChanged 6 = .ok (.iload_n 2, 1) := by decide +kernel
theorem dX8_isChanged_7 : decode cX8_isChanged 7 = .ok (.iadd, 1) := by decide +kernel
theorem dX8_isChanged_8 : decode cX8_isChanged 8 = .ok (.istore_n 3, 1) := by decide +kernel
theorem dX8_isChanged_9 : decode cX8_isChanged 9 = .ok (.iload_n 2, 1) := by decide +kernel
theorem dX8_isChanged_10 : decode cX8_isChanged 10 = .ok (.iconst 1, 1) := by decide +kernel
theorem dX8_isChanged_11 : decode cX8_isChanged 11 = .ok (.if_icmp .le 24, 3) := by decide +kernel
theorem dX8_isChanged_14 : decode cX8_isChanged 14 = .ok (.aload_n 0, 1) := by decide +kernel
theorem dX8_isChanged_15 : decode cX8_isChanged 15 = .ok (.getfield 7, 3) := by decide +kernel
theorem dX8_isChanged_18 : decode cX8_isChanged 18 = .ok (.iload_n 3, 1) := by decide +kernel
theorem dX8_isChanged_19 : decode cX8_isChanged 19 = .ok (.iaload, 1) := by decide +kernel
theorem dX8_isChanged_20 : decode cX8_isChanged 20 = .ok (.aload_n 0, 1) := by decide +kernel
theorem dX8_isChanged_21 : decode cX8_isChanged 21 = .ok (.getfield 7, 3) := by decide +kernel
theorem dX8_isChanged_24 : decode cX8_isChanged 24 = .ok (.iload_n 3, 1) := by decide +kernel
theorem dX8_isChanged_25 : decode cX8_isChanged 25 = .ok (.iconst 1, 1) := by decide +kernel
theorem dX8_isChanged_26 : decode cX8_isChanged 26 = .ok (.isub, 1) := by decide +kernel
theorem dX8_isChanged_27 : decode cX8_isChanged 27 = .ok (.iaload, 1) := by decide +kernel
theorem dX8_isChanged_28 : decode cX8_isChanged 28 = .ok (.if_icmp .eq 7, 3) := by decide +kernel
theorem dX8_isChanged_31 : decode cX8_isChanged 31 = .ok (.iconst 1, 1) := by decide +kernel
theorem dX8_isChanged_32 : decode cX8_isChanged 32 = .ok (.goto 4, 3) := by decide +kernel
theorem dX8_isChanged_35 : decode cX8_isChanged 35 = .ok (.iconst 0, 1) := by decide +kernel
theorem dX8_isChanged_36 : decode cX8_isChanged 36 = .ok (.ireturn, 1) := by decide +kernel
theorem dX8_changes_0 : decode cX8_changes 0 = .ok (.aload_n 0, 1) := by decide +kernel
theorem dX8_changes_1 : decode cX8_changes 1 = .ok (.iload_n 1, 1) := by decide +kernel
theorem dX8_changes_2 : decode cX8_changes 2 = .ok (.invokevirtual 60, 3) := by decide +kernel
theorem dX8_changes_5 : decode cX8_changes 5 = .ok (.ifCond .ne 5, 3) := by decide +kernel
theorem dX8_changes_8 : decode cX8_changes 8 = .ok (.iconst (-1), 1) := by decide +kernel
theorem dX8_changes_9 : decode cX8_changes 9 = .ok (.ireturn, 1) := by decide +kernel
theorem dX8_changes_10 : decode cX8_changes 10 = .ok (.iconst 0, 1) := by decide +kernel
theorem dX8_changes_11 : decode cX8_changes 11 = .ok (.istore_n 2, 1) := by decide +kernel
theorem dX8_changes_12 : decode cX8_changes 12 = .ok (.iconst 0, 1) := by decide +kernel
theorem dX8_changes_13 : decode cX8_changes 13 = .ok (.istore_n 3, 1) := by decide +kernel
theorem dX8_changes_14 : decode cX8_changes 14 = .ok (.iload_n 3, 1) := by decide +kernel
theorem dX8_changes_15 : decode cX8_changes 15 = .ok (.aload_n 0, 1) := by decide +kernel
theorem dX8_changes_16 : decode cX8_changes 16 = .ok (.getfield 7, 3) := by decide +kernel
theorem dX8_changes_19 : decode cX8_changes 19 = .ok (.iconst 1, 1) := by decide +kernel
theorem dX8_changes_20 : decode cX8_changes 20 = .ok (.iaload, 1) := by decide +kernel
theorem dX8_changes_21 : decode cX8_changes 21 = .ok (.if_icmp .ge 26, 3) := by decide +kernel
theorem dX8_changes_24 : decode cX8_changes 24 = .ok (.iload_n 2, 1) := by decide +kernel
theorem dX8_changes_25 : decode cX8_changes 25 = .ok (.aload_n 0, 1) := by decide +kernel
theorem dX8_changes_26 : decode cX8_changes 26 = .ok (.iload_n 3, 1) := by decide +kernel
theorem dX8_changes_27 : decode cX8_changes 27 = .ok (.iload_n 1, 1) := by decide +kernel
theorem dX8_changes_28 : decode cX8_changes 28 = .ok (.invokevirtual 114, 3) := by decide +kernel
theorem dX8_changes_31 : decode cX8_changes 31 = .ok (.ifCond .eq 7, 3) := by decide +kernel
theorem dX8_changes_34 : decode cX8_changes 34 = .ok (.iconst 1, 1) := by decide +kernel
theorem dX8_changes_35 : decode cX8_changes 35 = .ok (.goto 4, 3) := by decide +kernel
theorem dX8_changes_38 : decode cX8_changes 38 = .ok (.iconst 0, 1) := by decide +kernel
theorem dX8_changes_39 : decode cX8_changes 39 = .ok (.iadd, 1) := by decide +kernel
theorem dX8_changes_40 : decode cX8_changes 40 = .ok (.istore_n 2, 1) := by decide +kernel
theorem dX8_changes_41 : decode cX8_changes 41 = .ok (.iinc 3 1, 3) := by decide +kernel
theorem dX8_changes_44 : decode cX8_changes 44 = .ok (.goto (-30), 3) := by decide +kernel
theorem dX8_changes_47 : decode cX8_changes 47 = .ok (.iload_n 2, 1) := by decide +kernel
theorem dX8_changes_48 : decode cX8_changes 48 = .ok (.ireturn, 1) := by decide +kernel
theorem dX8_change_0 : decode cX8_change 0 = .ok (.aload_n 0, 1) := by decide +kernel
theorem dX8_change_1 : decode cX8_change 1 = .ok (.iload_n 1, 1) := by decide +kernel
theorem dX8_change_2 : decode cX8_change 2 = .ok (.invokevirtual 60, 3) := by decide +kernel
theorem dX8_change_5 : decode cX8_change 5 = .ok (.ifCond .eq 16, 3) := by decide +kernel
theorem dX8_change_8 : decode cX8_change 8 = .ok (.iload_n 2, 1) := by decide +kernel
theorem dX8_change_9 : decode cX8_change 9 = .ok (.ifCond .lt 12, 3) := by decide +kernel
theorem dX8_change_12 : decode cX8_change 12 = .ok (.iload_n 3, 1) := by decide +kernel
theorem dX8_change_13 : decode cX8_change 13 = .ok (.iconst 0, 1) := by decide +kernel
theorem dX8_change_14 : decode cX8_change 14 = .ok (.iconst 2, 1) := by decide +kernel
theorem dX8_change_15 : decode cX8_change 15 = .ok (.invokestatic 23, 3) := by decide +kernel
theorem dX8_change_18 : decode cX8_change 18 = .ok (.ifCond .ne 5, 3) := by decide +kernel
theorem dX8_change_21 : decode cX8_change 21 = .ok (.iconst (-1), 1) := by decide +kernel
theorem dX8_change_22 : decode cX8_change 22 = .ok (.ireturn, 1) := by decide +kernel
theorem dX8_change_23 : decode cX8_change 23 = .ok (.iconst 0, 1) := by decide +kernel
theorem dX8_change_24 : decode cX8_change 24 = .ok (.istore 4, 2) := by decide +kernel
theorem dX8_change_26 : decode cX8_change 26 = .ok (.iconst 0, 1) := by decide +kernel
theorem dX8_change_27 : decode cX8_change 27 = .ok (.istore 5, 2) := by decide +kernel
theorem dX8_change_29 : decode cX8_change 29 = .ok (.iload 5, 2) := by decide +kernel
theorem dX8_change_31 : decode cX8_change 31 = .ok (.aload_n 0, 1) := by decide +kernel
theorem dX8_change_32 : decode cX8_change 32 = .ok (.getfield 7, 3) := by decide +kernel
theorem dX8_change_35 : decode cX8_change 35 = .ok (.iconst 1, 1) := by decide +kernel
theorem dX8_change_36 : decode cX8_change 36 = .ok (.iaload, 1) := by decide +kernel
theorem dX8_change_37 : decode cX8_change 37 = .ok (.if_icmp .ge 74, 3) := by decide +kernel
theorem dX8_change_40 : decode cX8_change 40 = .ok (.aload_n 0, 1) := by decide +kernel
theorem dX8_change_41 : decode cX8_change 41 = .ok (.iload 5, 2) := by decide +kernel
theorem dX8_change_43 : decode cX8_change 43 = .ok (.iload_n 1, 1) := by decide +kernel
theorem dX8_change_44 : decode cX8_change 44 = .ok (.invokevirtual 114, 3) := by decide +kernel
theorem dX8_change_47 : decode cX8_change 47 = .ok (.ifCond .eq 58, 3) := by decide +kernel
theorem dX8_change_50 : decode cX8_change 50 = .ok (.iload 4, 2) := by decide +kernel
theorem dX8_change_52 : decode cX8_change 52 = .ok (.iload_n 2, 1) := by decide +kernel
theorem dX8_change_53 : decode cX8_change 53 = .ok (.if_icmp .ne 49, 3) := by decide +kernel
theorem dX8_change_56 : decode cX8_change 56 = .ok (.iload 5, 2) := by decide +kernel
theorem dX8_change_58 : decode cX8_change 58 = .ok (.invokestatic 34, 3) := by decide +kernel
theorem dX8_change_61 : decode cX8_change 61 = .ok (.istore 6, 2) := by decide +kernel
theorem dX8_change_63 : decode cX8_change 63 = .ok (.iload_n 3, 1) := by decide +kernel
theorem dX8_change_64 : decode cX8_change 64 = .ok (.ifCond .ne 15, 3) := by decide +kernel
theorem dX8_change_67 : decode cX8_change 67 = .ok (.aload_n 0, 1) := by decide +kernel
theorem dX8_change_68 : decode cX8_change 68 = .ok (.getfield 7, 3) := by decide +kernel
theorem dX8_change_71 : decode cX8_change 71 = .ok (.iload 6, 2) := by decide +kernel
theorem dX8_change_73 : decode cX8_change 73 = .ok (.iconst 0, 1) := by decide +kernel
theorem dX8_change_74 : decode cX8_change 74 = .ok (.iadd, 1) := by decide +kernel
theorem dX8_change_75 : decode cX8_change 75 = .ok (.iaload, 1) := by decide +kernel
theorem dX8_change_76 : decode cX8_change 76 = .ok (.goto 25, 3) := by decide +kernel
theorem dX8_change_79 : decode cX8_change 79 = .ok (.aload_n 0, 1) := by decide +kernel
theorem dX8_change_80 : decode cX8_change 80 = .ok (.getfield 7, 3) := by decide +kernel
theorem dX8_change_83 : decode cX8_change 83 = .ok (.iload 6, 2) := by decide +kernel
theorem dX8_change_85 : decode cX8_change 85 = .ok (.iload_n 3, 1) := by decide +kernel
theorem dX8_change_86 : decode cX8_change 86 = .ok (.iconst 1, 1) := by decide +kernel
theorem dX8_change_87 : decode cX8_change 87 = .ok (.if_icmp .ne 8, 3) := by decide +kernel
theorem dX8_change_90 : decode cX8_change 90 = .ok (.bipush 17, 2) := by decide +kernel
theorem dX8_change_92 : decode cX8_change 92 = .ok (.goto 5, 3) := by decide +kernel
theorem dX8_change_95 : decode cX8_change 95 = .ok (.bipush 31, 2) := by decide +kernel
theorem dX8_change_97 : decode cX8_change 97 = .ok (.iadd, 1) := by decide +kernel
theorem dX8_change_98 : decode cX8_change 98 = .ok (.iload_n 1, 1) := by decide +kernel
theorem dX8_change_99 : decode cX8_change 99 = .ok (.iadd, 1) := by decide +kernel
theorem dX8_change_100 : decode cX8_change 100 = .ok (.iaload, 1) := by decide +kernel
theorem dX8_change_101 : decode cX8_change 101 = .ok (.ireturn, 1) := by decide +kernel
theorem dX8_change_102 : decode cX8_change 102 = .ok (.iinc 4 1, 3) := by decide +kernel
theorem dX8_change_105 : decode cX8_change 105 = .ok (.iinc 5 1, 3) := by decide +kernel
theorem dX8_change_108 : decode cX8_change 108 = .ok (.goto (-79), 3) := by decide +kernel
theorem dX8_change_111 : decode cX8_change 111 = .ok (.bipush (-4), 2) := by decide +kernel
theorem dX8_change_113 : decode cX8_change 113 = .ok (.ireturn, 1) := by decide +kernel
theorem dX8_type_0 : decode cX8_type 0 = .ok (.iload_n 1, 1) := by decide +kernel
theorem dX8_type_1 : decode cX8_type 1 = .ok (.bipush 32, 2) := by decide +kernel
theorem dX8_type_3 : decode cX8_type 3 = .ok (.bipush 126, 2) := by decide +kernel
theorem dX8_type_5 : decode cX8_type 5 = .ok (.invokestatic 23, 3) := by decide +kernel
theorem dX8_type_8 : decode cX8_type 8 = .ok (.ifCond .ne 5, 3) := by decide +kernel
theorem dX8_type_11 : decode cX8_type 11 = .ok (.iconst (-1), 1) := by decide +kernel
theorem dX8_type_12 : decode cX8_type 12 = .ok (.ireturn, 1) := by decide +kernel
theorem dX8_type_13 : decode cX8_type 13 = .ok (.aload_n 0, 1) := by decide +kernel
theorem dX8_type_14 : decode cX8_type 14 = .ok (.getfield 70, 3) := by decide +kernel
theorem dX8_type_17 : decode cX8_type 17 = .ok (.bipush 80, 2) := by decide +kernel
theorem dX8_type_19 : decode cX8_type 19 = .ok (.if_icmp .ne 6, 3) := by decide +kernel
theorem dX8_type_22 : decode cX8_type 22 = .ok (.bipush (-3), 2) := by decide +kernel
theorem dX8_type_24 : decode cX8_type 24 = .ok (.ireturn, 1) := by decide +kernel
theorem dX8_type_25 : decode cX8_type 25 = .ok (.aload_n 0, 1) := by decide +kernel
theorem dX8_type_26 : decode cX8_type 26 = .ok (.getfield 16, 3) := by decide +kernel
theorem dX8_type_29 : decode cX8_type 29 = .ok (.aload_n 0, 1) := by decide +kernel
theorem dX8_type_30 : decode cX8_type 30 = .ok (.getfield 70, 3) := by decide +kernel
theorem dX8_type_33 : decode cX8_type 33 = .ok (.iload_n 1, 1) := by decide +kernel
theorem dX8_type_34 : decode cX8_type 34 = .ok (.iastore, 1) := by decide +kernel
theorem dX8_type_35 : decode cX8_type 35 = .ok (.aload_n 0, 1) := by decide +kernel
theorem dX8_type_36 : decode cX8_type 36 = .ok (.dup, 1) := by decide +kernel
theorem dX8_type_37 : decode cX8_type 37 = .ok (.getfield 70, 3) := by decide +kernel
theorem dX8_type_40 : decode cX8_type 40 = .ok (.iconst 1, 1) := by decide +kernel
theorem dX8_type_41 : decode cX8_type 41 = .ok (.iadd, 1) := by decide +kernel
theorem dX8_type_42 : decode cX8_type 42 = .ok (.putfield 70, 3) := by decide +kernel
theorem dX8_type_45 : decode cX8_type 45 = .ok (.aload_n 0, 1) := by decide +kernel
theorem dX8_type_46 : decode cX8_type 46 = .ok (.getfield 70, 3) := by decide +kernel
theorem dX8_type_49 : decode cX8_type 49 = .ok (.ireturn, 1) := by decide +kernel
theorem dX8_clearText_0 : decode cX8_clearText 0 = .ok (.aload_n 0, 1) := by decide +kernel
theorem dX8_clearText_1 : decode cX8_clearText 1 = .ok (.getfield 70, 3) := by decide +kernel
theorem dX8_clearText_4 : decode cX8_clearText 4 = .ok (.istore_n 1, 1) := by decide +kernel
theorem dX8_clearText_5 : decode cX8_clearText 5 = .ok (.aload_n 0, 1) := by decide +kernel
theorem dX8_clearText_6 : decode cX8_clearText 6 = .ok (.iconst 0, 1) := by decide +kernel
theorem dX8_clearText_7 : decode cX8_clearText 7 = .ok (.putfield 70, 3) := by decide +kernel
theorem dX8_clearText_10 : decode cX8_clearText 10 = .ok (.iload_n 1, 1) := by decide +kernel
theorem dX8_clearText_11 : decode cX8_clearText 11 = .ok (.ireturn, 1) := by decide +kernel
theorem dX8_here_0 : decode cX8_here 0 = .ok (.aload_n 0, 1) := by decide +kernel
theorem dX8_here_1 : decode cX8_here 1 = .ok (.getfield 117, 3) := by decide +kernel
theorem dX8_here_4 : decode cX8_here 4 = .ok (.aload_n 0, 1) := by decide +kernel
theorem dX8_here_5 : decode cX8_here 5 = .ok (.getfield 70, 3) := by decide +kernel
theorem dX8_here_8 : decode cX8_here 8 = .ok (.if_icmp .ge 15, 3) := by decide +kernel
theorem dX8_here_11 : decode cX8_here 11 = .ok (.aload_n 0, 1) := by decide +kernel
theorem dX8_here_12 : decode cX8_here 12 = .ok (.getfield 16, 3) := by decide +kernel
theorem dX8_here_15 : decode cX8_here 15 = .ok (.aload_n 0, 1) := by decide +kernel
theorem dX8_here_16 : decode cX8_here 16 = .ok (.getfield 117, 3) := by decide +kernel
theorem dX8_here_19 : decode cX8_here 19 = .ok (.iaload, 1) := by decide +kernel
theorem dX8_here_20 : decode cX8_here 20 = .ok (.goto 4, 3) := by decide +kernel
theorem dX8_here_23 : decode cX8_here 23 = .ok (.iconst (-1), 1) := by decide +kernel
theorem dX8_here_24 : decode cX8_here 24 = .ok (.ireturn, 1) := by decide +kernel
theorem dX8_readNumber_0 : decode cX8_readNumber 0 = .ok (.iconst (-1), 1) := by decide +kernel
theorem dX8_readNumber_1 : decode cX8_readNumber 1 = .ok (.istore_n 2, 1) := by decide +kernel
theorem dX8_readNumber_2 : decode cX8_readNumber 2 = .ok (.aload_n 0, 1) := by decide +kernel
theorem dX8_readNumber_3 : decode cX8_readNumber 3 = .ok (.getfield 117, 3) := by decide +kernel
theorem dX8_readNumber_6 : decode cX8_readNumber 6 = .ok (.iload_n 1, 1) := by decide +kernel
theorem dX8_readNumber_7 : decode cX8_readNumber 7 = .ok (.iadd, 1) := by decide +kernel
theorem dX8_readNumber_8 : decode cX8_readNumber 8 = .ok (.istore_n 3, 1) := by decide +kernel
theorem dX8_readNumber_9 : decode cX8_readNumber 9 = .ok (.aload_n 0, 1) := by decide +kernel
theorem dX8_readNumber_10 : decode cX8_readNumber 10 = .ok (.getfield 117, 3) := by decide +kernel
theorem dX8_readNumber_13 : decode cX8_readNumber 13 = .ok (.iload_n 3, 1) := by decide +kernel
theorem dX8_readNumber_14 : decode cX8_readNumber 14 = .ok (.if_icmp .ge 51, 3) := by decide +kernel
theorem dX8_readNumber_17 : decode cX8_readNumber 17 = .ok (.aload_n 0, 1) := by decide +kernel
theorem dX8_readNumber_18 : decode cX8_readNumber 18 = .ok (.invokevirtual 120, 3) := by decide +kernel
theorem dX8_readNumber_21 : decode cX8_readNumber 21 = .ok (.bipush 48, 2) := by decide +kernel
theorem dX8_readNumber_23 : decode cX8_readNumber 23 = .ok (.bipush 57, 2) := by decide +kernel
theorem dX8_readNumber_25 : decode cX8_readNumber 25 = .ok (.invokestatic 23, 3) := by decide +kernel
theorem dX8_readNumber_28 : decode cX8_readNumber 28 = .ok (.ifCond .eq 37, 3) := by decide +kernel
theorem dX8_readNumber_31 : decode cX8_readNumber 31 = .ok (.bipush 10, 2) := by decide +kernel
theorem dX8_readNumber_33 : decode cX8_readNumber 33 = .ok (.iload_n 2, 1) := by decide +kernel
theorem dX8_readNumber_34 : decode cX8_readNumber 34 = .ok (.ifCond .ge 7, 3) := by decide +kernel
theorem dX8_readNumber_37 : decode cX8_readNumber 37 = .ok (.iconst 0, 1) := by decide +kernel
theorem dX8_readNumber_38 : decode cX8_readNumber 38 = .ok (.goto 4, 3) := by decide +kernel
theorem dX8_readNumber_41 : decode cX8_readNumber 41 = .ok (.iload_n 2, 1) := by decide +kernel
theorem dX8_readNumber_42 : decode cX8_readNumber 42 = .ok (.imul, 1) := by decide +kernel
theorem dX8_readNumber_43 : decode cX8_readNumber 43 = .ok (.aload_n 0, 1) := by decide +kernel
theorem dX8_readNumber_44 : decode cX8_readNumber 44 = .ok (.invokevirtual 120, 3) := by decide +kernel
theorem dX8_readNumber_47 : decode cX8_readNumber 47 = .ok (.iadd, 1) := by decide +kernel
theorem dX8_readNumber_48 : decode cX8_readNumber 48 = .ok (.bipush 48, 2) := by decide +kernel
theorem dX8_readNumber_50 : decode cX8_readNumber 50 = .ok (.isub, 1) := by decide +kernel
theorem dX8_readNumber_51 : decode cX8_readNumber 51 = .ok (.istore_n 2, 1) := by decide +kernel
theorem dX8_readNumber_52 : decode cX8_readNumber 52 = .ok (.aload_n 0, 1) := by decide +kernel
theorem dX8_readNumber_53 : decode cX8_readNumber 53 = .ok (.dup, 1) := by decide +kernel
theorem dX8_readNumber_54 : decode cX8_readNumber 54 = .ok (.getfield 117, 3) := by decide +kernel
theorem dX8_readNumber_57 : decode cX8_readNumber 57 = .ok (.iconst 1, 1) := by decide +kernel
theorem dX8_readNumber_58 : decode cX8_readNumber 58 = .ok (.iadd, 1) := by decide +kernel
theorem dX8_readNumber_59 : decode cX8_readNumber 59 = .ok (.putfield 117, 3) := by decide +kernel
theorem dX8_readNumber_62 : decode cX8_readNumber 62 = .ok (.goto (-53), 3) := by decide +kernel
theorem dX8_readNumber_65 : decode cX8_readNumber 65 = .ok (.iload_n 2, 1) := by decide +kernel
theorem dX8_readNumber_66 : decode cX8_readNumber 66 = .ok (.ireturn, 1) := by decide +kernel
theorem dX8_takes_0 : decode cX8_takes 0 = .ok (.aload_n 0, 1) := by decide +kernel
theorem dX8_takes_1 : decode cX8_takes 1 = .ok (.invokevirtual 120, 3) := by decide +kernel
theorem dX8_takes_4 : decode cX8_takes 4 = .ok (.iload_n 1, 1) := by decide +kernel
theorem dX8_takes_5 : decode cX8_takes 5 = .ok (.if_icmp .ne 7, 3) := by decide +kernel
theorem dX8_takes_8 : decode cX8_takes 8 = .ok (.iconst 1, 1) := by decide +kernel
theorem dX8_takes_9 : decode cX8_takes 9 = .ok (.goto 4, 3) := by decide +kernel
theorem dX8_takes_12 : decode cX8_takes 12 = .ok (.iconst 0, 1) := by decide +kernel
theorem dX8_takes_13 : decode cX8_takes 13 = .ok (.istore_n 2, 1) := by decide +kernel
theorem dX8_takes_14 : decode cX8_takes 14 = .ok (.aload_n 0, 1) := by decide +kernel
theorem dX8_takes_15 : decode cX8_takes 15 = .ok (.dup, 1) := by decide +kernel
theorem dX8_takes_16 : decode cX8_takes 16 = .ok (.getfield 117, 3) := by decide +kernel
theorem dX8_takes_19 : decode cX8_takes 19 = .ok (.iload_n 2, 1) := by decide +kernel
theorem dX8_takes_20 : decode cX8_takes 20 = .ok (.ifCond .eq 7, 3) := by decide +kernel
theorem dX8_takes_23 : decode cX8_takes 23 = .ok (.iconst 1, 1) := by decide +kernel
theorem dX8_takes_24 : decode cX8_takes 24 = .ok (.goto 4, 3) := by decide +kernel
theorem dX8_takes_27 : decode cX8_takes 27 = .ok (.iconst 0, 1) := by decide +kernel
theorem dX8_takes_28 : decode cX8_takes 28 = .ok (.iadd, 1) := by decide +kernel
theorem dX8_takes_29 : decode cX8_takes 29 = .ok (.putfield 117, 3) := by decide +kernel
theorem dX8_takes_32 : decode cX8_takes 32 = .ok (.iload_n 2, 1) := by decide +kernel
theorem dX8_takes_33 : decode cX8_takes 33 = .ok (.ireturn, 1) := by decide +kernel
theorem dX8_readsComment_0 : decode cX8_readsComment 0 = .ok (.aload_n 0, 1) := by decide +kernel
theorem dX8_readsComment_1 : decode cX8_readsComment 1 = .ok (.aload_n 0, 1) := by decide +kernel
theorem dX8_readsComment_2 : decode cX8_readsComment 2 = .ok (.iconst 2, 1) := by decide +kernel
theorem dX8_readsComment_3 : decode cX8_readsComment 3 = .ok (.invokevirtual 123, 3) := by decide +kernel
theorem dX8_readsComment_6 : decode cX8_readsComment 6 = .ok (.putfield 126, 3) := by decide +kernel
theorem dX8_readsComment_9 : decode cX8_readsComment 9 = .ok (.aload_n 0, 1) := by decide +kernel
theorem dX8_readsComment_10 : decode cX8_readsComment 10 = .ok (.aload_n 0, 1) := by decide +kernel
theorem dX8_readsComment_11 : decode cX8_readsComment 11 = .ok (.invokevirtual 120, 3) := by decide +kernel
theorem dX8_readsComment_14 : decode cX8_readsComment 14 = .ok (.bipush 116, 2) := by decide +kernel
theorem dX8_readsComment_16 : decode cX8_readsComment 16 = .ok (.if_icmp .ne 7, 3) := by decide +kernel
theorem dX8_readsComment_19 : decode cX8_readsComment 19 = .ok (.iconst 1, 1) := by decide +kernel
theorem dX8_readsComment_20 : decode cX8_readsComment 20 = .ok (.goto 17, 3) := by decide +kernel
theorem dX8_readsComment_23 : decode cX8_readsComment 23 = .ok (.aload_n 0, 1) := by decide +kernel
theorem dX8_readsComment_24 : decode cX8_readsComment 24 = .ok (.invokevirtual 120, 3) := by decide +kernel
theorem dX8_readsComment_27 : decode cX8_readsComment 27 = .ok (.bipush 101, 2) := by decide +kernel
theorem dX8_readsComment_29 : decode cX8_readsComment 29 = .ok (.if_icmp .ne 7, 3) := by decide +kernel
theorem dX8_readsComment_32 : decode cX8_readsComment 32 = .ok (.iconst 0, 1) := by decide +kernel
theorem dX8_readsComment_33 : decode cX8_readsComment 33 = .ok (.goto 4, 3) := by decide +kernel
theorem dX8_readsComment_36 : decode cX8_readsComment 36 = .ok (.iconst (-1), 1) := by decide +kernel
theorem dX8_readsComment_37 : decode cX8_readsComment 37 = .ok (.putfield 129, 3) := by decide +kernel
theorem dX8_readsComment_40 : decode cX8_readsComment 40 = .ok (.aload_n 0, 1) := by decide +kernel
theorem dX8_readsComment_41 : decode cX8_readsComment 41 = .ok (.getfield 126, 3) := by decide +kernel
theorem dX8_readsComment_44 : decode cX8_readsComment 44 = .ok (.ifCond .lt 10, 3) := by decide +kernel
theorem dX8_readsComment_47 : decode cX8_readsComment 47 = .ok (.aload_n 0, 1) := by decide +kernel
theorem dX8_readsComment_48 : decode cX8_readsComment 48 = .ok (.getfield 129, 3) := by decide +kernel
theorem dX8_readsComment_51 : decode cX8_readsComment 51 = .ok (.ifCond .ge 5, 3) := by decide +kernel
theorem dX8_readsComment_54 : decode cX8_readsComment 54 = .ok (.iconst 0, 1) := by decide +kernel
theorem dX8_readsComment_55 : decode cX8_readsComment 55 = .ok (.ireturn, 1) := by decide +kernel
theorem dX8_readsComment_56 : decode cX8_readsComment 56 = .ok (.aload_n 0, 1) := by decide +kernel
theorem dX8_readsComment_57 : decode cX8_readsComment 57 = .ok (.dup, 1) := by decide +kernel
theorem dX8_readsComment_58 : decode cX8_readsComment 58 = .ok (.getfield 117, 3) := by decide +kernel
theorem dX8_readsComment_61 : decode cX8_readsComment 61 = .ok (.iconst 1, 1) := by decide +kernel
theorem dX8_readsComment_62 : decode cX8_readsComment 62 = .ok (.iadd, 1) := by decide +kernel
theorem dX8_readsComment_63 : decode cX8_readsComment 63 = .ok (.putfield 117, 3) := by decide +kernel
theorem dX8_readsComment_66 : decode cX8_readsComment 66 = .ok (.aload_n 0, 1) := by decide +kernel
theorem dX8_readsComment_67 : decode cX8_readsComment 67 = .ok (.bipush 61, 2) := by decide +kernel
theorem dX8_readsComment_69 : decode cX8_readsComment 69 = .ok (.invokevirtual 132, 3) := by decide +kernel
theorem dX8_readsComment_72 : decode cX8_readsComment 72 = .ok (.ifCond .ne 5, 3) := by decide +kernel
theorem dX8_readsComment_75 : decode cX8_readsComment 75 = .ok (.iconst 0, 1) := by decide +kernel
theorem dX8_readsComment_76 : decode cX8_readsComment 76 = .ok (.ireturn, 1) := by decide +kernel
theorem dX8_readsComment_77 : decode cX8_readsComment 77 = .ok (.aload_n 0, 1) := by decide +kernel
theorem dX8_readsComment_78 : decode cX8_readsComment 78 = .ok (.aload_n 0, 1) := by decide +kernel
theorem dX8_readsComment_79 : decode cX8_readsComment 79 = .ok (.iconst 4, 1) := by decide +kernel
theorem dX8_readsComment_80 : decode cX8_readsComment 80 = .ok (.invokevirtual 123, 3) := by decide +kernel
theorem dX8_readsComment_83 : decode cX8_readsComment 83 = .ok (.putfield 135, 3) := by decide +kernel
theorem dX8_readsComment_86 : decode cX8_readsComment 86 = .ok (.aload_n 0, 1) := by decide +kernel
theorem dX8_readsComment_87 : decode cX8_readsComment 87 = .ok (.getfield 135, 3) := by decide +kernel
theorem dX8_readsComment_90 : decode cX8_readsComment 90 = .ok (.ifCond .lt 16, 3) := by decide +kernel
theorem dX8_readsComment_93 : decode cX8_readsComment 93 = .ok (.aload_n 0, 1) := by decide +kernel
theorem dX8_readsComment_94 : decode cX8_readsComment 94 = .ok (.bipush 59, 2) := by decide +kernel
theorem dX8_readsComment_96 : decode cX8_readsComment 96 = .ok (.invokevirtual 132, 3) := by decide +kernel
theorem dX8_readsComment_99 : decode cX8_readsComment 99 = .ok (.ifCond .eq 7, 3) := by decide +kernel
theorem dX8_readsComment_102 : decode cX8_readsComment 102 = .ok (.iconst 1, 1) := by decide +kernel
theorem dX8_readsComment_103 : decode cX8_readsComment 103 = .ok (.goto 4, 3) := by decide +kernel
theorem dX8_readsComment_106 : decode cX8_readsComment 106 = .ok (.iconst 0, 1) := by decide +kernel
theorem dX8_readsComment_107 : decode cX8_readsComment 107 = .ok (.ireturn, 1) := by decide +kernel
theorem dX8_hasFault_0 : decode cX8_hasFault 0 = .ok (.aload_n 0, 1) := by decide +kernel
theorem dX8_hasFault_1 : decode cX8_hasFault 1 = .ok (.iconst 0, 1) := by decide +kernel
theorem dX8_hasFault_2 : decode cX8_hasFault 2 = .ok (.putfield 117, 3) := by decide +kernel
theorem dX8_hasFault_5 : decode cX8_hasFault 5 = .ok (.aload_n 0, 1) := by decide +kernel
theorem dX8_hasFault_6 : decode cX8_hasFault 6 = .ok (.iconst 0, 1) := by decide +kernel
theorem dX8_hasFault_7 : decode cX8_hasFault 7 = .ok (.putfield 138, 3) := by decide +kernel
theorem dX8_hasFault_10 : decode cX8_hasFault 10 = .ok (.aload_n 0, 1) := by decide +kernel
theorem dX8_hasFault_11 : decode cX8_hasFault 11 = .ok (.getfield 117, 3) := by decide +kernel
theorem dX8_hasFault_14 : decode cX8_hasFault 14 = .ok (.aload_n 0, 1) := by decide +kernel
theorem dX8_hasFault_15 : decode cX8_hasFault 15 = .ok (.getfield 70, 3) := by decide +kernel
theorem dX8_hasFault_18 : decode cX8_hasFault 18 = .ok (.if_icmp .ge 123, 3) := by decide +kernel
theorem dX8_hasFault_21 : decode cX8_hasFault 21 = .ok (.aload_n 0, 1) := by decide +kernel
theorem dX8_hasFault_22 : decode cX8_hasFault 22 = .ok (.getfield 117, 3) := by decide +kernel
theorem dX8_hasFault_25 : decode cX8_hasFault 25 = .ok (.istore_n 1, 1) := by decide +kernel
theorem dX8_hasFault_26 : decode cX8_hasFault 26 = .ok (.aload_n 0, 1) := by decide +kernel
theorem dX8_hasFault_27 : decode cX8_hasFault 27 = .ok (.invokevirtual 141, 3) := by decide +kernel
theorem dX8_hasFault_30 : decode cX8_hasFault 30 = .ok (.istore_n 2, 1) := by decide +kernel
theorem dX8_hasFault_31 : decode cX8_hasFault 31 = .ok (.iload_n 2, 1) := by decide +kernel
theorem dX8_hasFault_32 : decode cX8_hasFault 32 = .ok (.ifCond .eq 14, 3) := by decide +kernel
theorem dX8_hasFault_35 : decode cX8_hasFault 35 = .ok (.aload_n 0, 1) := by decide +kernel
theorem dX8_hasFault_36 : decode cX8_hasFault 36 = .ok (.aload_n 0, 1) := by decide +kernel
theorem dX8_hasFault_37 : decode cX8_hasFault 37 = .ok (.getfield 126, 3) := by decide +kernel
theorem dX8_hasFault_40 : decode cX8_hasFault 40 = .ok (.invokevirtual 41, 3) := by decide +kernel
theorem dX8_hasFault_43 : decode cX8_hasFault 43 = .ok (.goto 4, 3) := by decide +kernel
theorem dX8_hasFault_46 : decode cX8_hasFault 46 = .ok (.iconst (-1), 1) := by decide +kernel
theorem dX8_hasFault_47 : decode cX8_hasFault 47 = .ok (.istore_n 3, 1) := by decide +kernel
theorem dX8_hasFault_48 : decode cX8_hasFault 48 = .ok (.iload_n 2, 1) := by decide +kernel
theorem dX8_hasFault_49 : decode cX8_hasFault 49 = .ok (.ifCond .ne 7, 3) := by decide +kernel
theorem dX8_hasFault_52 : decode cX8_hasFault 52 = .ok (.iconst 1, 1) := by decide +kernel
theorem dX8_hasFault_53 : decode cX8_hasFault 53 = .ok (.goto 55, 3) := by decide +kernel
theorem dX8_hasFault_56 : decode cX8_hasFault 56 = .ok (.iload_n 3, 1) := by decide +kernel
theorem dX8_hasFault_57 : decode cX8_hasFault 57 = .ok (.ifCond .ge 7, 3) := by decide +kernel
theorem dX8_hasFault_60 : decode cX8_hasFault 60 = .ok (.iconst 2, 1) := by decide +kernel
theorem dX8_hasFault_61 : decode cX8_hasFault 61 = .ok (.goto 47, 3) := by decide +kernel
theorem dX8_hasFault_64 : decode cX8_hasFault 64 = .ok (.aload_n 0, 1) := by decide +kernel
theorem dX8_hasFault_65 : decode cX8_hasFault 65 = .ok (.getfield 7, 3) := by decide +kernel
theorem dX8_hasFault_68 : decode cX8_hasFault 68 = .ok (.iload_n 3, 1) := by decide +kernel
theorem dX8_hasFault_69 : decode cX8_hasFault 69 = .ok (.invokestatic 34, 3) := by decide +kernel
theorem dX8_hasFault_72 : decode cX8_hasFault 72 = .ok (.iconst 1, 1) := by decide +kernel
theorem dX8_hasFault_73 : decode cX8_hasFault 73 = .ok (.iadd, 1) := by decide +kernel
theorem dX8_hasFault_74 : decode cX8_hasFault 74 = .ok (.iaload, 1) := by decide +kernel
theorem dX8_hasFault_75 : decode cX8_hasFault 75 = .ok (.aload_n 0, 1) := by decide +kernel
theorem dX8_hasFault_76 : decode cX8_hasFault 76 = .ok (.getfield 135, 3) := by decide +kernel
theorem dX8_hasFault_79 : decode cX8_hasFault 79 = .ok (.if_icmp .ne 7, 3) := by decide +kernel
theorem dX8_hasFault_82 : decode cX8_hasFault 82 = .ok (.iconst 3, 1) := by decide +kernel
theorem dX8_hasFault_83 : decode cX8_hasFault 83 = .ok (.goto 25, 3) := by decide +kernel
theorem dX8_hasFault_86 : decode cX8_hasFault 86 = .ok (.aload_n 0, 1) := by decide +kernel
theorem dX8_hasFault_87 : decode cX8_hasFault 87 = .ok (.getfield 7, 3) := by decide +kernel
theorem dX8_hasFault_90 : decode cX8_hasFault 90 = .ok (.bipush 9, 2) := by decide +kernel
theorem dX8_hasFault_92 : decode cX8_hasFault 92 = .ok (.iaload, 1) := by decide +kernel
theorem dX8_hasFault_93 : decode cX8_hasFault 93 = .ok (.aload_n 0, 1) := by decide +kernel
theorem dX8_hasFault_94 : decode cX8_hasFault 94 = .ok (.getfield 138, 3) := by decide +kernel
theorem dX8_hasFault_97 : decode cX8_hasFault 97 = .ok (.iadd, 1) := by decide +kernel
theorem dX8_hasFault_98 : decode cX8_hasFault 98 = .ok (.bipush 30, 2) := by decide +kernel
theorem dX8_hasFault_100 : decode cX8_hasFault 100 = .ok (.if_icmp .lt 7, 3) := by decide +kernel
theorem dX8_hasFault_103 : decode cX8_hasFault 103 = .ok (.iconst 4, 1) := by decide +kernel
theorem dX8_hasFault_104 : decode cX8_hasFault 104 = .ok (.goto 4, 3) := by decide +kernel
theorem dX8_hasFault_107 : decode cX8_hasFault 107 = .ok (.iconst 0, 1) := by decide +kernel
theorem dX8_hasFault_108 : decode cX8_hasFault 108 = .ok (.istore 4, 2) := by decide +kernel
theorem dX8_hasFault_110 : decode cX8_hasFault 110 = .ok (.iload 4, 2) := by decide +kernel
theorem dX8_hasFault_112 : decode cX8_hasFault 112 = .ok (.ifCond .le 16, 3) := by decide +kernel
theorem dX8_hasFault_115 : decode cX8_hasFault 115 = .ok (.aload_n 0, 1) := by decide +kernel
theorem dX8_hasFault_116 : decode cX8_hasFault 116 = .ok (.iload_n 1, 1) := by decide +kernel
theorem dX8_hasFault_117 : decode cX8_hasFault 117 = .ok (.putfield 144, 3) := by decide +kernel
theorem dX8_hasFault_120 : decode cX8_hasFault 120 = .ok (.aload_n 0, 1) := by decide +kernel
theorem dX8_hasFault_121 : decode cX8_hasFault 121 = .ok (.iload 4, 2) := by decide +kernel
theorem dX8_hasFault_123 : decode cX8_hasFault 123 = .ok (.putfield 147, 3) := by decide +kernel
theorem dX8_hasFault_126 : decode cX8_hasFault 126 = .ok (.iconst 1, 1) := by decide +kernel
theorem dX8_hasFault_127 : decode cX8_hasFault 127 = .ok (.ireturn, 1) := by decide +kernel
theorem dX8_hasFault_128 : decode cX8_hasFault 128 = .ok (.aload_n 0, 1) := by decide +kernel
theorem dX8_hasFault_129 : decode cX8_hasFault 129 = .ok (.dup, 1) := by decide +kernel
theorem dX8_hasFault_130 : decode cX8_hasFault 130 = .ok (.getfield 138, 3) := by decide +kernel
theorem dX8_hasFault_133 : decode cX8_hasFault 133 = .ok (.iconst 1, 1) := by decide +kernel
theorem dX8_hasFault_134 : decode cX8_hasFault 134 = .ok (.iadd, 1) := by decide +kernel
theorem dX8_hasFault_135 : decode cX8_hasFault 135 = .ok (.putfield 138, 3) := by decide +kernel
theorem dX8_hasFault_138 : decode cX8_hasFault 138 = .ok (.goto (-128), 3) := by decide +kernel
theorem dX8_hasFault_141 : decode cX8_hasFault 141 = .ok (.iconst 0, 1) := by decide +kernel
theorem dX8_hasFault_142 : decode cX8_hasFault 142 = .ok (.ireturn, 1) := by decide +kernel
theorem dX8_fault_0 : decode cX8_fault 0 = .ok (.iload_n 1, 1) := by decide +kernel
theorem dX8_fault_1 : decode cX8_fault 1 = .ok (.iconst 0, 1) := by decide +kernel
theorem dX8_fault_2 : decode cX8_fault 2 = .ok (.iconst 1, 1) := by decide +kernel
theorem dX8_fault_3 : decode cX8_fault 3 = .ok (.invokestatic 23, 3) := by decide +kernel
theorem dX8_fault_6 : decode cX8_fault 6 = .ok (.ifCond .ne 5, 3) := by decide +kernel
theorem dX8_fault_9 : decode cX8_fault 9 = .ok (.iconst (-1), 1) := by decide +kernel
theorem dX8_fault_10 : decode cX8_fault 10 = .ok (.ireturn, 1) := by decide +kernel
theorem dX8_fault_11 : decode cX8_fault 11 = .ok (.aload_n 0, 1) := by decide +kernel
theorem dX8_fault_12 : decode cX8_fault 12 = .ok (.invokevirtual 150, 3) := by decide +kernel
theorem dX8_fault_15 : decode cX8_fault 15 = .ok (.ifCond .ne 8, 3) := by decide +kernel
theorem dX8_fault_18 : decode cX8_fault 18 = .ok (.bipush (-4), 2) := by decide +kernel
theorem dX8_fault_20 : decode cX8_fault 20 = .ok (.goto 18, 3) := by decide +kernel
theorem dX8_fault_23 : decode cX8_fault 23 = .ok (.iload_n 1, 1) := by decide +kernel
theorem dX8_fault_24 : decode cX8_fault 24 = .ok (.ifCond .ne 10, 3) := by decide +kernel
theorem dX8_fault_27 : decode cX8_fault 27 = .ok (.aload_n 0, 1) := by decide +kernel
theorem dX8_fault_28 : decode cX8_fault 28 = .ok (.getfield 144, 3) := by decide +kernel
theorem dX8_fault_31 : decode cX8_fault 31 = .ok (.goto 7, 3) := by decide +kernel
theorem dX8_fault_34 : decode cX8_fault 34 = .ok (.aload_n 0, 1) := by decide +kernel
theorem dX8_fault_35 : decode cX8_fault 35 = .ok (.getfield 147, 3) := by decide +kernel
theorem dX8_fault_38 : decode cX8_fault 38 = .ok (.ireturn, 1) := by decide +kernel
theorem dX8_enter_0 : decode cX8_enter 0 = .ok (.aload_n 0, 1) := by decide +kernel
theorem dX8_enter_1 : decode cX8_enter 1 = .ok (.iload_n 1, 1) := by decide +kernel
theorem dX8_enter_2 : decode cX8_enter 2 = .ok (.invokevirtual 51, 3) := by decide +kernel
theorem dX8_enter_5 : decode cX8_enter 5 = .ok (.ifCond .ne 5, 3) := by decide +kernel
theorem dX8_enter_8 : decode cX8_enter 8 = .ok (.iconst (-1), 1) := by decide +kernel
theorem dX8_enter_9 : decode cX8_enter 9 = .ok (.ireturn, 1) := by decide +kernel
theorem dX8_enter_10 : decode cX8_enter 10 = .ok (.aload_n 0, 1) := by decide +kernel
theorem dX8_enter_11 : decode cX8_enter 11 = .ok (.getfield 7, 3) := by decide +kernel
theorem dX8_enter_14 : decode cX8_enter 14 = .ok (.iconst 4, 1) := by decide +kernel
theorem dX8_enter_15 : decode cX8_enter 15 = .ok (.iaload, 1) := by decide +kernel
theorem dX8_enter_16 : decode cX8_enter 16 = .ok (.ifCond .eq 10, 3) := by decide +kernel
theorem dX8_enter_19 : decode cX8_enter 19 = .ok (.aload_n 0, 1) := by decide +kernel
theorem dX8_enter_20 : decode cX8_enter 20 = .ok (.invokevirtual 150, 3) := by decide +kernel
theorem dX8_enter_23 : decode cX8_enter 23 = .ok (.ifCond .eq 6, 3) := by decide +kernel
theorem dX8_enter_26 : decode cX8_enter 26 = .ok (.bipush (-2), 2) := by decide +kernel
theorem dX8_enter_28 : decode cX8_enter 28 = .ok (.ireturn, 1) := by decide +kernel
theorem dX8_enter_29 : decode cX8_enter 29 = .ok (.aload_n 0, 1) := by decide +kernel
theorem dX8_enter_30 : decode cX8_enter 30 = .ok (.invokevirtual 31, 3) := by decide +kernel
theorem dX8_enter_33 : decode cX8_enter 33 = .ok (.aload_n 0, 1) := by decide +kernel
theorem dX8_enter_34 : decode cX8_enter 34 = .ok (.getfield 138, 3) := by decide +kernel
theorem dX8_enter_37 : decode cX8_enter 37 = .ok (.istore_n 2, 1) := by decide +kernel
theorem dX8_enter_38 : decode cX8_enter 38 = .ok (.aload_n 0, 1) := by decide +kernel
theorem dX8_enter_39 : decode cX8_enter 39 = .ok (.iconst 0, 1) := by decide +kernel
theorem dX8_enter_40 : decode cX8_enter 40 = .ok (.putfield 117, 3) := by decide +kernel
theorem dX8_enter_43 : decode cX8_enter 43 = .ok (.iconst 0, 1) := by decide +kernel
theorem dX8_enter_44 : decode cX8_enter 44 = .ok (.istore_n 3, 1) := by decide +kernel
theorem dX8_enter_45 : decode cX8_enter 45 = .ok (.iload_n 3, 1) := by decide +kernel
theorem dX8_enter_46 : decode cX8_enter 46 = .ok (.iload_n 2, 1) := by decide +kernel
theorem dX8_enter_47 : decode cX8_enter 47 = .ok (.if_icmp .ge 34, 3) := by decide +kernel
theorem dX8_enter_50 : decode cX8_enter 50 = .ok (.aload_n 0, 1) := by decide +kernel
theorem dX8_enter_51 : decode cX8_enter 51 = .ok (.invokevirtual 141, 3) := by decide +kernel
theorem dX8_enter_54 : decode cX8_enter 54 = .ok (.istore 4, 2) := by decide +kernel
theorem dX8_enter_56 : decode cX8_enter 56 = .ok (.aload_n 0, 1) := by decide +kernel
theorem dX8_enter_57 : decode cX8_enter 57 = .ok (.iload_n 1, 1) := by decide +kernel
theorem dX8_enter_58 : decode cX8_enter 58 = .ok (.aload_n 0, 1) := by decide +kernel
theorem dX8_enter_59 : decode cX8_enter 59 = .ok (.getfield 126, 3) := by decide +kernel
theorem dX8_enter_62 : decode cX8_enter 62 = .ok (.aload_n 0, 1) := by decide +kernel
theorem dX8_enter_63 : decode cX8_enter 63 = .ok (.getfield 129, 3) := by decide +kernel
theorem dX8_enter_66 : decode cX8_enter 66 = .ok (.aload_n 0, 1) := by decide +kernel
theorem dX8_enter_67 : decode cX8_enter 67 = .ok (.getfield 135, 3) := by decide +kernel
theorem dX8_enter_70 : decode cX8_enter 70 = .ok (.invokevirtual 87, 3) := by decide +kernel
theorem dX8_enter_73 : decode cX8_enter 73 = .ok (.istore 5, 2) := by decide +kernel
theorem dX8_enter_75 : decode cX8_enter 75 = .ok (.iinc 3 1, 3) := by decide +kernel
theorem dX8_enter_78 : decode cX8_enter 78 = .ok (.goto (-33), 3) := by decide +kernel
theorem dX8_enter_81 : decode cX8_enter 81 = .ok (.iload_n 2, 1) := by decide +kernel
theorem dX8_enter_82 : decode cX8_enter 82 = .ok (.ireturn, 1) := by decide +kernel
end
section
theorem dL_law_0 : decode cL_law 0 = .ok (.new 7, 3) := by decide +kernel
theorem dL_law_3 : decode cL_law 3 = .ok (.dup, 1) := by decide +kernel
theorem dL_law_4 : decode cL_law 4 = .ok (.invokespecial 9, 3) := by decide +kernel
theorem dL_law_7 : decode cL_law 7 = .ok (.astore_n 1, 1) := by decide +kernel
theorem dL_law_8 : decode cL_law 8 = .ok (.new 10, 3) := by decide +kernel
theorem dL_law_11 : decode cL_law 11 = .ok (.dup, 1) := by decide +kernel
theorem dL_law_12 : decode cL_law 12 = .ok (.invokespecial 12, 3) := by decide +kernel
theorem dL_law_15 : decode cL_law 15 = .ok (.astore_n 2, 1) := by decide +kernel
theorem dL_law_16 : decode cL_law 16 = .ok (.iconst 0, 1) := by decide +kernel
theorem dL_law_17 : decode cL_law 17 = .ok (.istore_n 3, 1) := by decide +kernel
theorem dL_law_18 : decode cL_law 18 = .ok (.iload_n 3, 1) := by decide +kernel
theorem dL_law_19 : decode cL_law 19 = .ok (.aload_n 0, 1) := by decide +kernel
theorem dL_law_20 : decode cL_law 20 = .ok (.arraylength, 1) := by decide +kernel
theorem dL_law_21 : decode cL_law 21 = .ok (.iconst 5, 1) := by decide +kernel
theorem dL_law_22 : decode cL_law 22 = .ok (.isub, 1) := by decide +kernel
theorem dL_law_23 : decode cL_law 23 = .ok (.if_icmp .gt 796, 3) := by decide +kernel
theorem dL_law_26 : decode cL_law 26 = .ok (.aload_n 0, 1) := by decide +kernel
theorem dL_law_27 : decode cL_law 27 = .ok (.iload_n 3, 1) := by decide +kernel
theorem dL_law_28 : decode cL_law 28 = .ok (.iaload, 1) := by decide +kernel
theorem dL_law_29 : decode cL_law 29 = .ok (.bipush 31, 2) := by decide +kernel
theorem dL_law_31 : decode cL_law 31 = .ok (.iand, 1) := by decide +kernel
theorem dL_law_32 : decode cL_law 32 = .ok (.tableswitch 781 0 24 #[116, 139, 172, 205, 238, 261, 294, 317, 340, 353, 386, 409, 432, 445, 498, 531, 544, 577, 620, 643, 686, 699, 722, 735, 758], 116) := by decide +kernel
theorem dL_law_148 : decode cL_law 148 = .ok (.aload_n 1, 1) := by decide +kernel
theorem dL_law_149 : decode cL_law 149 = .ok (.aload_n 0, 1) := by decide +kernel
theorem dL_law_150 : decode cL_law 150 = .ok (.iload_n 3, 1) := by decide +kernel
theorem dL_law_151 : decode cL_law 151 = .ok (.iconst 1, 1) := by decide +kernel
theorem dL_law_152 : decode cL_law 152 = .ok (.iadd, 1) := by decide +kernel
theorem dL_law_153 : decode cL_law 153 = .ok (.iaload, 1) := by decide +kernel
theorem dL_law_154 : decode cL_law 154 = .ok (.invokevirtual 13, 3) := by decide +kernel
theorem dL_law_157 : decode cL_law 157 = .ok (.aload_n 2, 1) := by decide +kernel
theorem dL_law_158 : decode cL_law 158 = .ok (.aload_n 0, 1) := by decide +kernel
theorem dL_law_159 : decode cL_law 159 = .ok (.iload_n 3, 1) := by decide +kernel
theorem dL_law_160 : decode cL_law 160 = .ok (.iconst 1, 1) := by decide +kernel
theorem dL_law_161 : decode cL_law 161 = .ok (.iadd, 1) := by decide +kernel
theorem dL_law_162 : decode cL_law 162 = .ok (.iaload, 1) := by decide +kernel
theorem dL_law_163 : decode cL_law 163 = .ok (.invokevirtual 17, 3) := by decide +kernel
theorem dL_law_166 : decode cL_law 166 = .ok (.if_icmp .eq 647, 3) := by decide +kernel
theorem dL_law_169 : decode cL_law 169 = .ok (.iconst 0, 1) := by decide +kernel
theorem dL_law_170 : decode cL_law 170 = .ok (.ireturn, 1) := by decide +kernel
theorem dL_law_171 : decode cL_law 171 = .ok (.aload_n 1, 1) := by decide +kernel
theorem dL_law_172 : decode cL_law 172 = .ok (.aload_n 0, 1) := by decide +kernel
theorem dL_law_173 : decode cL_law 173 = .ok (.iload_n 3, 1) := by decide +kernel
theorem dL_law_174 : decode cL_law 174 = .ok (.iconst 1, 1) := by decide +kernel
theorem dL_law_175 : decode cL_law 175 = .ok (.iadd, 1) := by decide +kernel
theorem dL_law_176 : decode cL_law 176 = .ok (.iaload, 1) := by decide +kernel
theorem dL_law_177 : decode cL_law 177 = .ok (.aload_n 0, 1) := by decide +kernel
theorem dL_law_178 : decode cL_law 178 = .ok (.iload_n 3, 1) := by decide +kernel
theorem dL_law_179 : decode cL_law 179 = .ok (.iconst 2, 1) := by decide +kernel
theorem dL_law_180 : decode cL_law 180 = .ok (.iadd, 1) := by decide +kernel
theorem dL_law_181 : decode cL_law 181 = .ok (.iaload, 1) := by decide +kernel
theorem dL_law_182 : decode cL_law 182 = .ok (.invokevirtual 18, 3) := by decide +kernel
theorem dL_law_185 : decode cL_law 185 = .ok (.aload_n 2, 1) := by decide +kernel
theorem dL_law_186 : decode cL_law 186 = .ok (.aload_n 0, 1) := by decide +kernel
theorem dL_law_187 : decode cL_law 187 = .ok (.iload_n 3, 1) := by decide +kernel
theorem dL_law_188 : decode cL_law 188 = .ok (.iconst 1, 1) := by decide +kernel
theorem dL_law_189 : decode cL_law 189 = .ok (.iadd, 1) := by decide +kernel
theorem dL_law_190 : decode cL_law 190 = .ok (.iaload, 1) := by decide +kernel
theorem dL_law_191 : decode cL_law 191 = .ok (.aload_n 0, 1) := by decide +kernel
theorem dL_law_192 : decode cL_law 192 = .ok (.iload_n 3, 1) := by decide +kernel
theorem dL_law_193 : decode cL_law 193 = .ok (.iconst 2, 1) := by decide +kernel
theorem dL_law_194 : decode cL_law 194 = .ok (.iadd, 1) := by decide +kernel
theorem dL_law_195 : decode cL_law 195 = .ok (.iaload, 1) := by decide +kernel
theorem dL_law_196 : decode cL_law 196 = .ok (.invokevirtual 22, 3) := by decide +kernel
theorem dL_law_199 : decode cL_law 199 = .ok (.if_icmp .eq 614, 3) := by decide +kernel
theorem dL_law_202 : decode cL_law 202 = .ok (.iconst 0, 1) := by decide +kernel
theorem dL_law_203 : decode cL_law 203 = .ok (.ireturn, 1) := by decide +kernel
theorem dL_law_204 : decode cL_law 204 = .ok (.aload_n 1, 1) := by decide +kernel
theorem dL_law_205 : decode cL_law 205 = .ok (.aload_n 0, 1) := by decide +kernel
theorem dL_law_206 : decode cL_law 206 = .ok (.iload_n 3, 1) := by decide +kernel
theorem dL_law_207 : decode cL_law 207 = .ok (.iconst 1, 1) := by decide +kernel
theorem dL_law_208 : decode cL_law 208 = .ok (.iadd, 1) := by decide +kernel
theorem dL_law_209 : decode cL_law 209 = .ok (.iaload, 1) := by decide +kernel
theorem dL_law_210 : decode cL_law 210 = .ok (.aload_n 0, 1) := by decide +kernel
theorem dL_law_211 : decode cL_law 211 = .ok (.iload_n 3, 1) := by decide +kernel
theorem dL_law_212 : decode cL_law 212 = .ok (.iconst 2, 1) := by decide +kernel
theorem dL_law_213 : decode cL_law 213 = .ok (.iadd, 1) := by decide +kernel
theorem dL_law_214 : decode cL_law 214 = .ok (.iaload, 1) := by decide +kernel
theorem dL_law_215 : decode cL_law 215 = .ok (.invokevirtual 23, 3) := by decide +kernel
theorem dL_law_218 : decode cL_law 218 = .ok (.aload_n 2, 1) := by decide +kernel
theorem dL_law_219 : decode cL_law 219 = .ok (.aload_n 0, 1) := by decide +kernel
theorem dL_law_220 : decode cL_law 220 = .ok (.iload_n 3, 1) := by decide +kernel
theorem dL_law_221 : decode cL_law 221 = .ok (.iconst 1, 1) := by decide +kernel
theorem dL_law_222 : decode cL_law 222 = .ok (.iadd, 1) := by decide +kernel
theorem dL_law_223 : decode cL_law 223 = .ok (.iaload, 1) := by decide +kernel
theorem dL_law_224 : decode cL_law 224 = .ok (.aload_n 0, 1) := by decide +kernel
theorem dL_law_225 : decode cL_law 225 = .ok (.iload_n 3, 1) := by decide +kernel
theorem dL_law_226 : decode cL_law 226 = .ok (.iconst 2, 1) := by decide +kernel
theorem dL_law_227 : decode cL_law 227 = .ok (.iadd, 1) := by decide +kernel
theorem dL_law_228 : decode cL_law 228 = .ok (.iaload, 1) := by decide +kernel
theorem dL_law_229 : decode cL_law 229 = .ok (.invokevirtual 26, 3) := by decide +kernel
theorem dL_law_232 : decode cL_law 232 = .ok (.if_icmp .eq 581, 3) := by decide +kernel
theorem dL_law_235 : decode cL_law 235 = .ok (.iconst 0, 1) := by decide +kernel
theorem dL_law_236 : decode cL_law 236 = .ok (.ireturn, 1) := by decide +kernel
theorem dL_law_237 : decode cL_law 237 = .ok (.aload_n 1, 1) := by decide +kernel
theorem dL_law_238 : decode cL_law 238 = .ok (.aload_n 0, 1) := by decide +kernel
theorem dL_law_239 : decode cL_law 239 = .ok (.iload_n 3, 1) := by decide +kernel
theorem dL_law_240 : decode cL_law 240 = .ok (.iconst 1, 1) := by decide +kernel
theorem dL_law_241 : decode cL_law 241 = .ok (.iadd, 1) := by decide +kernel
theorem dL_law_242 : decode cL_law 242 = .ok (.iaload, 1) := by decide +kernel
theorem dL_law_243 : decode cL_law 243 = .ok (.aload_n 0, 1) := by decide +kernel
theorem dL_law_244 : decode cL_law 244 = .ok (.iload_n 3, 1) := by decide +kernel
theorem dL_law_245 : decode cL_law 245 = .ok (.iconst 2, 1) := by decide +kernel
theorem dL_law_246 : decode cL_law 246 = .ok (.iadd, 1) := by decide +kernel
theorem dL_law_247 : decode cL_law 247 = .ok (.iaload, 1) := by decide +kernel
theorem dL_law_248 : decode cL_law 248 = .ok (.invokevirtual 27, 3) := by decide +kernel
theorem dL_law_251 : decode cL_law 251 = .ok (.aload_n 2, 1) := by decide +kernel
theorem dL_law_252 : decode cL_law 252 = .ok (.aload_n 0, 1) := by decide +kernel
theorem dL_law_253 : decode cL_law 253 = .ok (.iload_n 3, 1) := by decide +kernel
theorem dL_law_254 : decode cL_law 254 = .ok (.iconst 1, 1) := by decide +kernel
theorem dL_law_255 : decode cL_law 255 = .ok (.iadd, 1) := by decide +kernel
theorem dL_law_256 : decode cL_law 256 = .ok (.iaload, 1) := by decide +kernel
theorem dL_law_257 : decode cL_law 257 = .ok (.aload_n 0, 1) := by decide +kernel
theorem dL_law_258 : decode cL_law 258 = .ok (.iload_n 3, 1) := by decide +kernel
theorem dL_law_259 : decode cL_law 259 = .ok (.iconst 2, 1) := by decide +kernel
theorem dL_law_260 : decode cL_law 260 = .ok (.iadd, 1) := by decide +kernel
theorem dL_law_261 : decode cL_law 261 = .ok (.iaload, 1) := by decide +kernel
theorem dL_law_262 : decode cL_law 262 = .ok (.invokevirtual 30, 3) := by decide +kernel
theorem dL_law_265 : decode cL_law 265 = .ok (.if_icmp .eq 548, 3) := by decide +kernel
theorem dL_law_268 : decode cL_law 268 = .ok (.iconst 0, 1) := by decide +kernel
theorem dL_law_269 : decode cL_law 269 = .ok (.ireturn, 1) := by decide +kernel
theorem dL_law_270 : decode cL_law 270 = .ok (.aload_n 1, 1) := by decide +kernel
theorem dL_law_271 : decode cL_law 271 = .ok (.aload_n 0, 1) := by decide +kernel
theorem dL_law_272 : decode cL_law 272 = .ok (.iload_n 3, 1) := by decide +kernel
theorem dL_law_273 : decode cL_law 273 = .ok (.iconst 1, 1) := by decide +kernel
theorem dL_law_274 : decode cL_law 274 = .ok (.iadd, 1) := by decide +kernel
theorem dL_law_275 : decode cL_law 275 = .ok (.iaload, 1) := by decide +kernel
theorem dL_law_276 : decode cL_law 276 = .ok (.invokevirtual 31, 3) := by decide +kernel
theorem dL_law_279 : decode cL_law 279 = .ok (.aload_n 2, 1) := by decide +kernel
theorem dL_law_280 : decode cL_law 280 = .ok (.aload_n 0, 1) := by decide +kernel
theorem dL_law_281 : decode cL_law 281 = .ok (.iload_n 3, 1) := by decide +kernel
theorem dL_law_282 : decode cL_law 282 = .ok (.iconst 1, 1) := by decide +kernel
theorem dL_law_283 : decode cL_law 283 = .ok (.iadd, 1) := by decide +kernel
theorem dL_law_284 : decode cL_law 284 = .ok (.iaload, 1) := by decide +kernel
theorem dL_law_285 : decode cL_law 285 = .ok (.invokevirtual 34, 3) := by decide +kernel
theorem dL_law_288 : decode cL_law 288 = .ok (.if_icmp .eq 525, 3) := by decide +kernel
theorem dL_law_291 : decode cL_law 291 = .ok (.iconst 0, 1) := by decide +kernel
theorem dL_law_292 : decode cL_law 292 = .ok (.ireturn, 1) := by decide +kernel
theorem dL_law_293 : decode cL_law 293 = .ok (.aload_n 1, 1) := by decide +kernel
theorem dL_law_294 : decode cL_law 294 = .ok (.aload_n 0, 1) := by decide +kernel
theorem dL_law_295 : decode cL_law 295 = .ok (.iload_n 3, 1) := by decide +kernel
theorem dL_law_296 : decode cL_law 296 = .ok (.iconst 1, 1) := by decide +kernel
theorem dL_law_297 : decode cL_law 297 = .ok (.iadd, 1) := by decide +kernel
theorem dL_law_298 : decode cL_law 298 = .ok (.iaload, 1) := by decide +kernel
theorem dL_law_299 : decode cL_law 299 = .ok (.aload_n 0, 1) := by decide +kernel
theorem dL_law_300 : decode cL_law 300 = .ok (.iload_n 3, 1) := by decide +kernel
theorem dL_law_301 : decode cL_law 301 = .ok (.iconst 2, 1) := by decide +kernel
theorem dL_law_302 : decode cL_law 302 = .ok (.iadd, 1) := by decide +kernel
theorem dL_law_303 : decode cL_law 303 = .ok (.iaload, 1) := by decide +kernel
theorem dL_law_304 : decode cL_law 304 = .ok (.invokevirtual 35, 3) := by decide +kernel
theorem dL_law_307 : decode cL_law 307 = .ok (.aload_n 2, 1) := by decide +kernel
theorem dL_law_308 : decode cL_law 308 = .ok (.aload_n 0, 1) := by decide +kernel
theorem dL_law_309 : decode cL_law 309 = .ok (.iload_n 3, 1) := by decide +kernel
theorem dL_law_310 : decode cL_law 310 = .ok (.iconst 1, 1) := by decide +kernel
theorem dL_law_311 : decode cL_law 311 = .ok (.iadd, 1) := by decide +kernel
theorem dL_law_312 : decode cL_law 312 = .ok (.iaload, 1) := by decide +kernel
theorem dL_law_313 : decode cL_law 313 = .ok (.aload_n 0, 1) := by decide +kernel
theorem dL_law_314 : decode cL_law 314 = .ok (.iload_n 3, 1) := by decide +kernel
theorem dL_law_315 : decode cL_law 315 = .ok (.iconst 2, 1) := by decide +kernel
theorem dL_law_316 : decode cL_law 316 = .ok (.iadd, 1) := by decide +kernel
theorem dL_law_317 : decode cL_law 317 = .ok (.iaload, 1) := by decide +kernel
theorem dL_law_318 : decode cL_law 318 = .ok (.invokevirtual 38, 3) := by decide +kernel
theorem dL_law_321 : decode cL_law 321 = .ok (.if_icmp .eq 492, 3) := by decide +kernel
theorem dL_law_324 : decode cL_law 324 = .ok (.iconst 0, 1) := by decide +kernel
theorem dL_law_325 : decode cL_law 325 = .ok (.ireturn, 1) := by decide +kernel
theorem dL_law_326 : decode cL_law 326 = .ok (.aload_n 1, 1) := by decide +kernel
theorem dL_law_327 : decode cL_law 327 = .ok (.aload_n 0, 1) := by decide +kernel
theorem dL_law_328 : decode cL_law 328 = .ok (.iload_n 3, 1) := by decide +kernel
theorem dL_law_329 : decode cL_law 329 = .ok (.iconst 1, 1) := by decide +kernel
theorem dL_law_330 : decode cL_law 330 = .ok (.iadd, 1) := by decide +kernel
theorem dL_law_331 : decode cL_law 331 = .ok (.iaload, 1) := by decide +kernel
theorem dL_law_332 : decode cL_law 332 = .ok (.invokevirtual 39, 3) := by decide +kernel
theorem dL_law_335 : decode cL_law 335 = .ok (.aload_n 2, 1) := by decide +kernel
theorem dL_law_336 : decode cL_law 336 = .ok (.aload_n 0, 1) := by decide +kernel
theorem dL_law_337 : decode cL_law 337 = .ok (.iload_n 3, 1) := by decide +kernel
theorem dL_law_338 : decode cL_law 338 = .ok (.iconst 1, 1) := by decide +kernel
theorem dL_law_339 : decode cL_law 339 = .ok (.iadd, 1) := by decide +kernel
theorem dL_law_340 : decode cL_law 340 = .ok (.iaload, 1) := by decide +kernel
theorem dL_law_341 : decode cL_law 341 = .ok (.invokevirtual 42, 3) := by decide +kernel
theorem dL_law_344 : decode cL_law 344 = .ok (.if_icmp .eq 469, 3) := by decide +kernel
theorem dL_law_347 : decode cL_law 347 = .ok (.iconst 0, 1) := by decide +kernel
theorem dL_law_348 : decode cL_law 348 = .ok (.ireturn, 1) := by decide +kernel
theorem dL_law_349 : decode cL_law 349 = .ok (.aload_n 1, 1) := by decide +kernel
theorem dL_law_350 : decode cL_law 350 = .ok (.aload_n 0, 1) := by decide +kernel
theorem dL_law_351 : decode cL_law 351 = .ok (.iload_n 3, 1) := by decide +kernel
theorem dL_law_352 : decode cL_law 352 = .ok (.iconst 1, 1) := by decide +kernel
theorem dL_law_353 : decode cL_law 353 = .ok (.iadd, 1) := by decide +kernel
theorem dL_law_354 : decode cL_law 354 = .ok (.iaload, 1) := by decide +kernel
theorem dL_law_355 : decode cL_law 355 = .ok (.invokevirtual 43, 3) := by decide +kernel
theorem dL_law_358 : decode cL_law 358 = .ok (.aload_n 2, 1) := by decide +kernel
theorem dL_law_359 : decode cL_law 359 = .ok (.aload_n 0, 1) := by decide +kernel
theorem dL_law_360 : decode cL_law 360 = .ok (.iload_n 3, 1) := by decide +kernel
theorem dL_law_361 : decode cL_law 361 = .ok (.iconst 1, 1) := by decide +kernel
theorem dL_law_362 : decode cL_law 362 = .ok (.iadd, 1) := by decide +kernel
theorem dL_law_363 : decode cL_law 363 = .ok (.iaload, 1) := by decide +kernel
theorem dL_law_364 : decode cL_law 364 = .ok (.invokevirtual 46, 3) := by decide +kernel
theorem dL_law_367 : decode cL_law 367 = .ok (.if_icmp .eq 446, 3) := by decide +kernel
theorem dL_law_370 : decode cL_law 370 = .ok (.iconst 0, 1) := by decide +kernel
theorem dL_law_371 : decode cL_law 371 = .ok (.ireturn, 1) := by decide +kernel
theorem dL_law_372 : decode cL_law 372 = .ok (.aload_n 1, 1) := by decide +kernel
theorem dL_law_373 : decode cL_law 373 = .ok (.invokevirtual 47, 3) := by decide +kernel
theorem dL_law_376 : decode cL_law 376 = .ok (.aload_n 2, 1) := by decide +kernel
theorem dL_law_377 : decode cL_law 377 = .ok (.invokevirtual 51, 3) := by decide +kernel
theorem dL_law_380 : decode cL_law 380 = .ok (.if_icmp .eq 433, 3) := by decide +kernel
theorem dL_law_383 : decode cL_law 383 = .ok (.iconst 0, 1) := by decide +kernel
theorem dL_law_384 : decode cL_law 384 = .ok (.ireturn, 1) := by decide +kernel
theorem dL_law_385 : decode cL_law 385 = .ok (.aload_n 1, 1) := by decide +kernel
theorem dL_law_386 : decode cL_law 386 = .ok (.aload_n 0, 1) := by decide +kernel
theorem dL_law_387 : decode cL_law 387 = .ok (.iload_n 3, 1) := by decide +kernel
theorem dL_law_388 : decode cL_law 388 = .ok (.iconst 1, 1) := by decide +kernel
theorem dL_law_389 : decode cL_law 389 = .ok (.iadd, 1) := by decide +kernel
theorem dL_law_390 : decode cL_law 390 = .ok (.iaload, 1) := by decide +kernel
theorem dL_law_391 : decode cL_law 391 = .ok (.aload_n 0, 1) := by decide +kernel
theorem dL_law_392 : decode cL_law 392 = .ok (.iload_n 3, 1) := by decide +kernel
theorem dL_law_393 : decode cL_law 393 = .ok (.iconst 2, 1) := by decide +kernel
theorem dL_law_394 : decode cL_law 394 = .ok (.iadd, 1) := by decide +kernel
theorem dL_law_395 : decode cL_law 395 = .ok (.iaload, 1) := by decide +kernel
theorem dL_law_396 : decode cL_law 396 = .ok (.invokevirtual 52, 3) := by decide +kernel
theorem dL_law_399 : decode cL_law 399 = .ok (.aload_n 2, 1) := by decide +kernel
theorem dL_law_400 : decode cL_law 400 = .ok (.aload_n 0, 1) := by decide +kernel
theorem dL_law_401 : decode cL_law 401 = .ok (.iload_n 3, 1) := by decide +kernel
theorem dL_law_402 : decode cL_law 402 = .ok (.iconst 1, 1) := by decide +kernel
theorem dL_law_403 : decode cL_law 403 = .ok (.iadd, 1) := by decide +kernel
theorem dL_law_404 : decode cL_law 404 = .ok (.iaload, 1) := by decide +kernel
theorem dL_law_405 : decode cL_law 405 = .ok (.aload_n 0, 1) := by decide +kernel
theorem dL_law_406 : decode cL_law 406 = .ok (.iload_n 3, 1) := by decide +kernel
theorem dL_law_407 : decode cL_law 407 = .ok (.iconst 2, 1) := by decide +kernel
theorem dL_law_408 : decode cL_law 408 = .ok (.iadd, 1) := by decide +kernel
theorem dL_law_409 : decode cL_law 409 = .ok (.iaload, 1) := by decide +kernel
theorem dL_law_410 : decode cL_law 410 = .ok (.invokevirtual 55, 3) := by decide +kernel
theorem dL_law_413 : decode cL_law 413 = .ok (.if_icmp .eq 400, 3) := by decide +kernel
theorem dL_law_416 : decode cL_law 416 = .ok (.iconst 0, 1) := by decide +kernel
theorem dL_law_417 : decode cL_law 417 = .ok (.ireturn, 1) := by decide +kernel
theorem dL_law_418 : decode cL_law 418 = .ok (.aload_n 1, 1) := by decide +kernel
theorem dL_law_419 : decode cL_law 419 = .ok (.aload_n 0, 1) := by decide +kernel
theorem dL_law_420 : decode cL_law 420 = .ok (.iload_n 3, 1) := by decide +kernel
theorem dL_law_421 : decode cL_law 421 = .ok (.iconst 1, 1) := by decide +kernel
theorem dL_law_422 : decode cL_law 422 = .ok (.iadd, 1) := by decide +kernel
theorem dL_law_423 : decode cL_law 423 = .ok (.iaload, 1) := by decide +kernel
theorem dL_law_424 : decode cL_law 424 = .ok (.invokevirtual 56, 3) := by decide +kernel
theorem dL_law_427 : decode cL_law 427 = .ok (.aload_n 2, 1) := by decide +kernel
theorem dL_law_428 : decode cL_law 428 = .ok (.aload_n 0, 1) := by decide +kernel
theorem dL_law_429 : decode cL_law 429 = .ok (.iload_n 3, 1) := by decide +kernel
theorem dL_law_430 : decode cL_law 430 = .ok (.iconst 1, 1) := by decide +kernel
theorem dL_law_431 : decode cL_law 431 = .ok (.iadd, 1) := by decide +kernel
theorem dL_law_432 : decode cL_law 432 = .ok (.iaload, 1) := by decide +kernel
theorem dL_law_433 : decode cL_law 433 = .ok (.invokevirtual 59, 3) := by decide +kernel
theorem dL_law_436 : decode cL_law 436 = .ok (.if_icmp .eq 377, 3) := by decide +kernel
theorem dL_law_439 : decode cL_law 439 = .ok (.iconst 0, 1) := by decide +kernel
theorem dL_law_440 : decode cL_law 440 = .ok (.ireturn, 1) := by decide +kernel
theorem dL_law_441 : decode cL_law 441 = .ok (.aload_n 1, 1) := by decide +kernel
theorem dL_law_442 : decode cL_law 442 = .ok (.aload_n 0, 1) := by decide +kernel
theorem dL_law_443 : decode cL_law 443 = .ok (.iload_n 3, 1) := by decide +kernel
theorem dL_law_444 : decode cL_law 444 = .ok (.iconst 1, 1) := by decide +kernel
theorem dL_law_445 : decode cL_law 445 = .ok (.iadd, 1) := by decide +kernel
theorem dL_law_446 : decode cL_law 446 = .ok (.iaload, 1) := by decide +kernel
theorem dL_law_447 : decode cL_law 447 = .ok (.invokevirtual 60, 3) := by decide +kernel
theorem dL_law_450 : decode cL_law 450 = .ok (.aload_n 2, 1) := by decide +kernel
theorem dL_law_451 : decode cL_law 451 = .ok (.aload_n 0, 1) := by decide +kernel
theorem dL_law_452 : decode cL_law 452 = .ok (.iload_n 3, 1) := by decide +kernel
theorem dL_law_453 : decode cL_law 453 = .ok (.iconst 1, 1) := by decide +kernel
theorem dL_law_454 : decode cL_law 454 = .ok (.iadd, 1) := by decide +kernel
theorem dL_law_455 : decode cL_law 455 = .ok (.iaload, 1) := by decide +kernel
theorem dL_law_456 : decode cL_law 456 = .ok (.invokevirtual 63, 3) := by decide +kernel
theorem dL_law_459 : decode cL_law 459 = .ok (.if_icmp .eq 354, 3) := by decide +kernel
theorem dL_law_462 : decode cL_law 462 = .ok (.iconst 0, 1) := by decide +kernel
theorem dL_law_463 : decode cL_law 463 = .ok (.ireturn, 1) := by decide +kernel
theorem dL_law_464 : decode cL_law 464 = .ok (.aload_n 1, 1) := by decide +kernel
theorem dL_law_465 : decode cL_law 465 = .ok (.invokevirtual 64, 3) := by decide +kernel
theorem dL_law_468 : decode cL_law 468 = .ok (.aload_n 2, 1) := by decide +kernel
theorem dL_law_469 : decode cL_law 469 = .ok (.invokevirtual 67, 3) := by decide +kernel
theorem dL_law_472 : decode cL_law 472 = .ok (.if_icmp .eq 341, 3) := by decide +kernel
theorem dL_law_475 : decode cL_law 475 = .ok (.iconst 0, 1) := by decide +kernel
theorem dL_law_476 : decode cL_law 476 = .ok (.ireturn, 1) := by decide +kernel
theorem dL_law_477 : decode cL_law 477 = .ok (.aload_n 1, 1) := by decide +kernel
theorem dL_law_478 : decode cL_law 478 = .ok (.aload_n 0, 1) := by decide +kernel
theorem dL_law_479 : decode cL_law 479 = .ok (.iload_n 3, 1) := by decide +kernel
theorem dL_law_480 : decode cL_law 480 = .ok (.iconst 1, 1) := by decide +kernel
theorem dL_law_481 : decode cL_law 481 = .ok (.iadd, 1) := by decide +kernel
theorem dL_law_482 : decode cL_law 482 = .ok (.iaload, 1) := by decide +kernel
theorem dL_law_483 : decode cL_law 483 = .ok (.aload_n 0, 1) := by decide +kernel
theorem dL_law_484 : decode cL_law 484 = .ok (.iload_n 3, 1) := by decide +kernel
theorem dL_law_485 : decode cL_law 485 = .ok (.iconst 2, 1) := by decide +kernel
theorem dL_law_486 : decode cL_law 486 = .ok (.iadd, 1) := by decide +kernel
theorem dL_law_487 : decode cL_law 487 = .ok (.iaload, 1) := by decide +kernel
theorem dL_law_488 : decode cL_law 488 = .ok (.aload_n 0, 1) := by decide +kernel
theorem dL_law_489 : decode cL_law 489 = .ok (.iload_n 3, 1) := by decide +kernel
theorem dL_law_490 : decode cL_law 490 = .ok (.iconst 3, 1) := by decide +kernel
theorem dL_law_491 : decode cL_law 491 = .ok (.iadd, 1) := by decide +kernel
theorem dL_law_492 : decode cL_law 492 = .ok (.iaload, 1) := by decide +kernel
theorem dL_law_493 : decode cL_law 493 = .ok (.aload_n 0, 1) := by decide +kernel
theorem dL_law_494 : decode cL_law 494 = .ok (.iload_n 3, 1) := by decide +kernel
theorem dL_law_495 : decode cL_law 495 = .ok (.iconst 4, 1) := by decide +kernel
theorem dL_law_496 : decode cL_law 496 = .ok (.iadd, 1) := by decide +kernel
theorem dL_law_497 : decode cL_law 497 = .ok (.iaload, 1) := by decide +kernel
theorem dL_law_498 : decode cL_law 498 = .ok (.invokevirtual 68, 3) := by decide +kernel
theorem dL_law_501 : decode cL_law 501 = .ok (.aload_n 2, 1) := by decide +kernel
theorem dL_law_502 : decode cL_law 502 = .ok (.aload_n 0, 1) := by decide +kernel
theorem dL_law_503 : decode cL_law 503 = .ok (.iload_n 3, 1) := by decide +kernel
theorem dL_law_504 : decode cL_law 504 = .ok (.iconst 1, 1) := by decide +kernel
theorem dL_law_505 : decode cL_law 505 = .ok (.iadd, 1) := by decide +kernel
theorem dL_law_506 : decode cL_law 506 = .ok (.iaload, 1) := by decide +kernel
theorem dL_law_507 : decode cL_law 507 = .ok (.aload_n 0, 1) := by decide +kernel
theorem dL_law_508 : decode cL_law 508 = .ok (.iload_n 3, 1) := by decide +kernel
theorem dL_law_509 : decode cL_law 509 = .ok (.iconst 2, 1) := by decide +kernel
theorem dL_law_510 : decode cL_law 510 = .ok (.iadd, 1) := by decide +kernel
theorem dL_law_511 : decode cL_law 511 = .ok (.iaload, 1) := by decide +kernel
theorem dL_law_512 : decode cL_law 512 = .ok (.aload_n 0, 1) := by decide +kernel
theorem dL_law_513 : decode cL_law 513 = .ok (.iload_n 3, 1) := by decide +kernel
theorem dL_law_514 : decode cL_law 514 = .ok (.iconst 3, 1) := by decide +kernel
theorem dL_law_515 : decode cL_law 515 = .ok (.iadd, 1) := by decide +kernel
theorem dL_law_516 : decode cL_law 516 = .ok (.iaload, 1) := by decide +kernel
theorem dL_law_517 : decode cL_law 517 = .ok (.aload_n 0, 1) := by decide +kernel
theorem dL_law_518 : decode cL_law 518 = .ok (.iload_n 3, 1) := by decide +kernel
theorem dL_law_519 : decode cL_law 519 = .ok (.iconst 4, 1) := by decide +kernel
theorem dL_law_520 : decode cL_law 520 = .ok (.iadd, 1) := by decide +kernel
theorem dL_law_521 : decode cL_law 521 = .ok (.iaload, 1) := by decide +kernel
theorem dL_law_522 : decode cL_law 522 = .ok (.invokevirtual 72, 3) := by decide +kernel
theorem dL_law_525 : decode cL_law 525 = .ok (.if_icmp .eq 288, 3) := by decide +kernel
theorem dL_law_528 : decode cL_law 528 = .ok (.iconst 0, 1) := by decide +kernel
theorem dL_law_529 : decode cL_law 529 = .ok (.ireturn, 1) := by decide +kernel
theorem dL_law_530 : decode cL_law 530 = .ok (.aload_n 1, 1) := by decide +kernel
theorem dL_law_531 : decode cL_law 531 = .ok (.aload_n 0, 1) := by decide +kernel
theorem dL_law_532 : decode cL_law 532 = .ok (.iload_n 3, 1) := by decide +kernel
theorem dL_law_533 : decode cL_law 533 = .ok (.iconst 1, 1) := by decide +kernel
theorem dL_law_534 : decode cL_law 534 = .ok (.iadd, 1) := by decide +kernel
theorem dL_law_535 : decode cL_law 535 = .ok (.iaload, 1) := by decide +kernel
theorem dL_law_536 : decode cL_law 536 = .ok (.aload_n 0, 1) := by decide +kernel
theorem dL_law_537 : decode cL_law 537 = .ok (.iload_n 3, 1) := by decide +kernel
theorem dL_law_538 : decode cL_law 538 = .ok (.iconst 2, 1) := by decide +kernel
theorem dL_law_539 : decode cL_law 539 = .ok (.iadd, 1) := by decide +kernel
theorem dL_law_540 : decode cL_law 540 = .ok (.iaload, 1) := by decide +kernel
theorem dL_law_541 : decode cL_law 541 = .ok (.invokevirtual 73, 3) := by decide +kernel
theorem dL_law_544 : decode cL_law 544 = .ok (.aload_n 2, 1) := by decide +kernel
theorem dL_law_545 : decode cL_law 545 = .ok (.aload_n 0, 1) := by decide +kernel
theorem dL_law_546 : decode cL_law 546 = .ok (.iload_n 3, 1) := by decide +kernel
theorem dL_law_547 : decode cL_law 547 = .ok (.iconst 1, 1) := by decide +kernel
theorem dL_law_548 : decode cL_law 548 = .ok (.iadd, 1) := by decide +kernel
theorem dL_law_549 : decode cL_law 549 = .ok (.iaload, 1) := by decide +kernel
theorem dL_law_550 : decode cL_law 550 = .ok (.aload_n 0, 1) := by decide +kernel
theorem dL_law_551 : decode cL_law 551 = .ok (.iload_n 3, 1) := by decide +kernel
theorem dL_law_552 : decode cL_law 552 = .ok (.iconst 2, 1) := by decide +kernel
theorem dL_law_553 : decode cL_law 553 = .ok (.iadd, 1) := by decide +kernel
theorem dL_law_554 : decode cL_law 554 = .ok (.iaload, 1) := by decide +kernel
theorem dL_law_555 : decode cL_law 555 = .ok (.invokevirtual 76, 3) := by decide +kernel
theorem dL_law_558 : decode cL_law 558 = .ok (.if_icmp .eq 255, 3) := by decide +kernel
theorem dL_law_561 : decode cL_law 561 = .ok (.iconst 0, 1) := by decide +kernel
theorem dL_law_562 : decode cL_law 562 = .ok (.ireturn, 1) := by decide +kernel
theorem dL_law_563 : decode cL_law 563 = .ok (.aload_n 1, 1) := by decide +kernel
theorem dL_law_564 : decode cL_law 564 = .ok (.invokevirtual 77, 3) := by decide +kernel
theorem dL_law_567 : decode cL_law 567 = .ok (.aload_n 2, 1) := by decide +kernel
theorem dL_law_568 : decode cL_law 568 = .ok (.invokevirtual 80, 3) := by decide +kernel
theorem dL_law_571 : decode cL_law 571 = .ok (.if_icmp .eq 242, 3) := by decide +kernel
theorem dL_law_574 : decode cL_law 574 = .ok (.iconst 0, 1) := by decide +kernel
theorem dL_law_575 : decode cL_law 575 = .ok (.ireturn, 1) := by decide +kernel
theorem dL_law_576 : decode cL_law 576 = .ok (.aload_n 1, 1) := by decide +kernel
theorem dL_law_577 : decode cL_law 577 = .ok (.aload_n 0, 1) := by decide +kernel
theorem dL_law_578 : decode cL_law 578 = .ok (.iload_n 3, 1) := by decide +kernel
theorem dL_law_579 : decode cL_law 579 = .ok (.iconst 1, 1) := by decide +kernel
theorem dL_law_580 : decode cL_law 580 = .ok (.iadd, 1) := by decide +kernel
theorem dL_law_581 : decode cL_law 581 = .ok (.iaload, 1) := by decide +kernel
theorem dL_law_582 : decode cL_law 582 = .ok (.aload_n 0, 1) := by decide +kernel
theorem dL_law_583 : decode cL_law 583 = .ok (.iload_n 3, 1) := by decide +kernel
theorem dL_law_584 : decode cL_law 584 = .ok (.iconst 2, 1) := by decide +kernel
theorem dL_law_585 : decode cL_law 585 = .ok (.iadd, 1) := by decide +kernel
theorem dL_law_586 : decode cL_law 586 = .ok (.iaload, 1) := by decide +kernel
theorem dL_law_587 : decode cL_law 587 = .ok (.invokevirtual 81, 3) := by decide +kernel
theorem dL_law_590 : decode cL_law 590 = .ok (.aload_n 2, 1) := by decide +kernel
theorem dL_law_591 : decode cL_law 591 = .ok (.aload_n 0, 1) := by decide +kernel
theorem dL_law_592 : decode cL_law 592 = .ok (.iload_n 3, 1) := by decide +kernel
theorem dL_law_593 : decode cL_law 593 = .ok (.iconst 1, 1) := by decide +kernel
theorem dL_law_594 : decode cL_law 594 = .ok (.iadd, 1) := by decide +kernel
theorem dL_law_595 : decode cL_law 595 = .ok (.iaload, 1) := by decide +kernel
theorem dL_law_596 : decode cL_law 596 = .ok (.aload_n 0, 1) := by decide +kernel
theorem dL_law_597 : decode cL_law 597 = .ok (.iload_n 3, 1) := by decide +kernel
theorem dL_law_598 : decode cL_law 598 = .ok (.iconst 2, 1) := by decide +kernel
theorem dL_law_599 : decode cL_law 599 = .ok (.iadd, 1) := by decide +kernel
theorem dL_law_600 : decode cL_law 600 = .ok (.iaload, 1) := by decide +kernel
theorem dL_law_601 : decode cL_law 601 = .ok (.invokevirtual 84, 3) := by decide +kernel
theorem dL_law_604 : decode cL_law 604 = .ok (.if_icmp .eq 209, 3) := by decide +kernel
theorem dL_law_607 : decode cL_law 607 = .ok (.iconst 0, 1) := by decide +kernel
theorem dL_law_608 : decode cL_law 608 = .ok (.ireturn, 1) := by decide +kernel
theorem dL_law_609 : decode cL_law 609 = .ok (.aload_n 1, 1) := by decide +kernel
theorem dL_law_610 : decode cL_law 610 = .ok (.aload_n 0, 1) := by decide +kernel
theorem dL_law_611 : decode cL_law 611 = .ok (.iload_n 3, 1) := by decide +kernel
theorem dL_law_612 : decode cL_law 612 = .ok (.iconst 1, 1) := by decide +kernel
theorem dL_law_613 : decode cL_law 613 = .ok (.iadd, 1) := by decide +kernel
theorem dL_law_614 : decode cL_law 614 = .ok (.iaload, 1) := by decide +kernel
theorem dL_law_615 : decode cL_law 615 = .ok (.aload_n 0, 1) := by decide +kernel
theorem dL_law_616 : decode cL_law 616 = .ok (.iload_n 3, 1) := by decide +kernel
theorem dL_law_617 : decode cL_law 617 = .ok (.iconst 2, 1) := by decide +kernel
theorem dL_law_618 : decode cL_law 618 = .ok (.iadd, 1) := by decide +kernel
theorem dL_law_619 : decode cL_law 619 = .ok (.iaload, 1) := by decide +kernel
theorem dL_law_620 : decode cL_law 620 = .ok (.aload_n 0, 1) := by decide +kernel
theorem dL_law_621 : decode cL_law 621 = .ok (.iload_n 3, 1) := by decide +kernel
theorem dL_law_622 : decode cL_law 622 = .ok (.iconst 3, 1) := by decide +kernel
theorem dL_law_623 : decode cL_law 623 = .ok (.iadd, 1) := by decide +kernel
theorem dL_law_624 : decode cL_law 624 = .ok (.iaload, 1) := by decide +kernel
theorem dL_law_625 : decode cL_law 625 = .ok (.invokevirtual 85, 3) := by decide +kernel
theorem dL_law_628 : decode cL_law 628 = .ok (.aload_n 2, 1) := by decide +kernel
theorem dL_law_629 : decode cL_law 629 = .ok (.aload_n 0, 1) := by decide +kernel
theorem dL_law_630 : decode cL_law 630 = .ok (.iload_n 3, 1) := by decide +kernel
theorem dL_law_631 : decode cL_law 631 = .ok (.iconst 1, 1) := by decide +kernel
theorem dL_law_632 : decode cL_law 632 = .ok (.iadd, 1) := by decide +kernel
theorem dL_law_633 : decode cL_law 633 = .ok (.iaload, 1) := by decide +kernel
theorem dL_law_634 : decode cL_law 634 = .ok (.aload_n 0, 1) := by decide +kernel
theorem dL_law_635 : decode cL_law 635 = .ok (.iload_n 3, 1) := by decide +kernel
theorem dL_law_636 : decode cL_law 636 = .ok (.iconst 2, 1) := by decide +kernel
theorem dL_law_637 : decode cL_law 637 = .ok (.iadd, 1) := by decide +kernel
theorem dL_law_638 : decode cL_law 638 = .ok (.iaload, 1) := by decide +kernel
theorem dL_law_639 : decode cL_law 639 = .ok (.aload_n 0, 1) := by decide +kernel
theorem dL_law_640 : decode cL_law 640 = .ok (.iload_n 3, 1) := by decide +kernel
theorem dL_law_641 : decode cL_law 641 = .ok (.iconst 3, 1) := by decide +kernel
theorem dL_law_642 : decode cL_law 642 = .ok (.iadd, 1) := by decide +kernel
theorem dL_law_643 : decode cL_law 643 = .ok (.iaload, 1) := by decide +kernel
theorem dL_law_644 : decode cL_law 644 = .ok (.invokevirtual 89, 3) := by decide +kernel
theorem dL_law_647 : decode cL_law 647 = .ok (.if_icmp .eq 166, 3) := by decide +kernel
theorem dL_law_650 : decode cL_law 650 = .ok (.iconst 0, 1) := by decide +kernel
theorem dL_law_651 : decode cL_law 651 = .ok (.ireturn, 1) := by decide +kernel
theorem dL_law_652 : decode cL_law 652 = .ok (.aload_n 1, 1) := by decide +kernel
theorem dL_law_653 : decode cL_law 653 = .ok (.aload_n 0, 1) := by decide +kernel
theorem dL_law_654 : decode cL_law 654 = .ok (.iload_n 3, 1) := by decide +kernel
theorem dL_law_655 : decode cL_law 655 = .ok (.iconst 1, 1) := by decide +kernel
theorem dL_law_656 : decode cL_law 656 = .ok (.iadd, 1) := by decide +kernel
theorem dL_law_657 : decode cL_law 657 = .ok (.iaload, 1) := by decide +kernel
theorem dL_law_658 : decode cL_law 658 = .ok (.invokevirtual 90, 3) := by decide +kernel
theorem dL_law_661 : decode cL_law 661 = .ok (.aload_n 2, 1) := by decide +kernel
theorem dL_law_662 : decode cL_law 662 = .ok (.aload_n 0, 1) := by decide +kernel
theorem dL_law_663 : decode cL_law 663 = .ok (.iload_n 3, 1) := by decide +kernel
theorem dL_law_664 : decode cL_law 664 = .ok (.iconst 1, 1) := by decide +kernel
theorem dL_law_665 : decode cL_law 665 = .ok (.iadd, 1) := by decide +kernel
theorem dL_law_666 : decode cL_law 666 = .ok (.iaload, 1) := by decide +kernel
theorem dL_law_667 : decode cL_law 667 = .ok (.invokevirtual 93, 3) := by decide +kernel
theorem dL_law_670 : decode cL_law 670 = .ok (.if_icmp .eq 143, 3) := by decide +kernel
theorem dL_law_673 : decode cL_law 673 = .ok (.iconst 0, 1) := by decide +kernel
theorem dL_law_674 : decode cL_law 674 = .ok (.ireturn, 1) := by decide +kernel
theorem dL_law_675 : decode cL_law 675 = .ok (.aload_n 1, 1) := by decide +kernel
theorem dL_law_676 : decode cL_law 676 = .ok (.aload_n 0, 1) := by decide +kernel
theorem dL_law_677 : decode cL_law 677 = .ok (.iload_n 3, 1) := by decide +kernel
theorem dL_law_678 : decode cL_law 678 = .ok (.iconst 1, 1) := by decide +kernel
theorem dL_law_679 : decode cL_law 679 = .ok (.iadd, 1) := by decide +kernel
theorem dL_law_680 : decode cL_law 680 = .ok (.iaload, 1) := by decide +kernel
theorem dL_law_681 : decode cL_law 681 = .ok (.aload_n 0, 1) := by decide +kernel
theorem dL_law_682 : decode cL_law 682 = .ok (.iload_n 3, 1) := by decide +kernel
theorem dL_law_683 : decode cL_law 683 = .ok (.iconst 2, 1) := by decide +kernel
theorem dL_law_684 : decode cL_law 684 = .ok (.iadd, 1) := by decide +kernel
theorem dL_law_685 : decode cL_law 685 = .ok (.iaload, 1) := by decide +kernel
theorem dL_law_686 : decode cL_law 686 = .ok (.aload_n 0, 1) := by decide +kernel
theorem dL_law_687 : decode cL_law 687 = .ok (.iload_n 3, 1) := by decide +kernel
theorem dL_law_688 : decode cL_law 688 = .ok (.iconst 3, 1) := by decide +kernel
theorem dL_law_689 : decode cL_law 689 = .ok (.iadd, 1) := by decide +kernel
theorem dL_law_690 : decode cL_law 690 = .ok (.iaload, 1) := by decide +kernel
theorem dL_law_691 : decode cL_law 691 = .ok (.invokevirtual 94, 3) := by decide +kernel
theorem dL_law_694 : decode cL_law 694 = .ok (.aload_n 2, 1) := by decide +kernel
theorem dL_law_695 : decode cL_law 695 = .ok (.aload_n 0, 1) := by decide +kernel
theorem dL_law_696 : decode cL_law 696 = .ok (.iload_n 3, 1) := by decide +kernel
theorem dL_law_697 : decode cL_law 697 = .ok (.iconst 1, 1) := by decide +kernel
theorem dL_law_698 : decode cL_law 698 = .ok (.iadd, 1) := by decide +kernel
theorem dL_law_699 : decode cL_law 699 = .ok (.iaload, 1) := by decide +kernel
theorem dL_law_700 : decode cL_law 700 = .ok (.aload_n 0, 1) := by decide +kernel
theorem dL_law_701 : decode cL_law 701 = .ok (.iload_n 3, 1) := by decide +kernel
theorem dL_law_702 : decode cL_law 702 = .ok (.iconst 2, 1) := by decide +kernel
theorem dL_law_703 : decode cL_law 703 = .ok (.iadd, 1) := by decide +kernel
theorem dL_law_704 : decode cL_law 704 = .ok (.iaload, 1) := by decide +kernel
theorem dL_law_705 : decode cL_law 705 = .ok (.aload_n 0, 1) := by decide +kernel
theorem dL_law_706 : decode cL_law 706 = .ok (.iload_n 3, 1) := by decide +kernel
theorem dL_law_707 : decode cL_law 707 = .ok (.iconst 3, 1) := by decide +kernel
theorem dL_law_708 : decode cL_law 708 = .ok (.iadd, 1) := by decide +kernel
theorem dL_law_709 : decode cL_law 709 = .ok (.iaload, 1) := by decide +kernel
theorem dL_law_710 : decode cL_law 710 = .ok (.invokevirtual 97, 3) := by decide +kernel
theorem dL_law_713 : decode cL_law 713 = .ok (.if_icmp .eq 100, 3) := by decide +kernel
theorem dL_law_716 : decode cL_law 716 = .ok (.iconst 0, 1) := by decide +kernel
theorem dL_law_717 : decode cL_law 717 = .ok (.ireturn, 1) := by decide +kernel
theorem dL_law_718 : decode cL_law 718 = .ok (.aload_n 1, 1) := by decide +kernel
theorem dL_law_719 : decode cL_law 719 = .ok (.invokevirtual 98, 3) := by decide +kernel
theorem dL_law_722 : decode cL_law 722 = .ok (.aload_n 2, 1) := by decide +kernel
theorem dL_law_723 : decode cL_law 723 = .ok (.invokevirtual 101, 3) := by decide +kernel
theorem dL_law_726 : decode cL_law 726 = .ok (.if_icmp .eq 87, 3) := by decide +kernel
theorem dL_law_729 : decode cL_law 729 = .ok (.iconst 0, 1) := by decide +kernel
theorem dL_law_730 : decode cL_law 730 = .ok (.ireturn, 1) := by decide +kernel
theorem dL_law_731 : decode cL_law 731 = .ok (.aload_n 1, 1) := by decide +kernel
theorem dL_law_732 : decode cL_law 732 = .ok (.aload_n 0, 1) := by decide +kernel
theorem dL_law_733 : decode cL_law 733 = .ok (.iload_n 3, 1) := by decide +kernel
theorem dL_law_734 : decode cL_law 734 = .ok (.iconst 1, 1) := by decide +kernel
theorem dL_law_735 : decode cL_law 735 = .ok (.iadd, 1) := by decide +kernel
theorem dL_law_736 : decode cL_law 736 = .ok (.iaload, 1) := by decide +kernel
theorem dL_law_737 : decode cL_law 737 = .ok (.invokevirtual 102, 3) := by decide +kernel
theorem dL_law_740 : decode cL_law 740 = .ok (.aload_n 2, 1) := by decide +kernel
theorem dL_law_741 : decode cL_law 741 = .ok (.aload_n 0, 1) := by decide +kernel
theorem dL_law_742 : decode cL_law 742 = .ok (.iload_n 3, 1) := by decide +kernel
theorem dL_law_743 : decode cL_law 743 = .ok (.iconst 1, 1) := by decide +kernel
theorem dL_law_744 : decode cL_law 744 = .ok (.iadd, 1) := by decide +kernel
theorem dL_law_745 : decode cL_law 745 = .ok (.iaload, 1) := by decide +kernel
theorem dL_law_746 : decode cL_law 746 = .ok (.invokevirtual 105, 3) := by decide +kernel
theorem dL_law_749 : decode cL_law 749 = .ok (.if_icmp .eq 64, 3) := by decide +kernel
theorem dL_law_752 : decode cL_law 752 = .ok (.iconst 0, 1) := by decide +kernel
theorem dL_law_753 : decode cL_law 753 = .ok (.ireturn, 1) := by decide +kernel
theorem dL_law_754 : decode cL_law 754 = .ok (.aload_n 1, 1) := by decide +kernel
theorem dL_law_755 : decode cL_law 755 = .ok (.invokevirtual 106, 3) := by decide +kernel
theorem dL_law_758 : decode cL_law 758 = .ok (.aload_n 2, 1) := by decide +kernel
theorem dL_law_759 : decode cL_law 759 = .ok (.invokevirtual 109, 3) := by decide +kernel
theorem dL_law_762 : decode cL_law 762 = .ok (.if_icmp .eq 51, 3) := by decide +kernel
theorem dL_law_765 : decode cL_law 765 = .ok (.iconst 0, 1) := by decide +kernel
theorem dL_law_766 : decode cL_law 766 = .ok (.ireturn, 1) := by decide +kernel
theorem dL_law_767 : decode cL_law 767 = .ok (.aload_n 1, 1) := by decide +kernel
theorem dL_law_768 : decode cL_law 768 = .ok (.aload_n 0, 1) := by decide +kernel
theorem dL_law_769 : decode cL_law 769 = .ok (.iload_n 3, 1) := by decide +kernel
theorem dL_law_770 : decode cL_law 770 = .ok (.iconst 1, 1) := by decide +kernel
theorem dL_law_771 : decode cL_law 771 = .ok (.iadd, 1) := by decide +kernel
theorem dL_law_772 : decode cL_law 772 = .ok (.iaload, 1) := by decide +kernel
theorem dL_law_773 : decode cL_law 773 = .ok (.invokevirtual 110, 3) := by decide +kernel
theorem dL_law_776 : decode cL_law 776 = .ok (.aload_n 2, 1) := by decide +kernel
theorem dL_law_777 : decode cL_law 777 = .ok (.aload_n 0, 1) := by decide +kernel
theorem dL_law_778 : decode cL_law 778 = .ok (.iload_n 3, 1) := by decide +kernel
theorem dL_law_779 : decode cL_law 779 = .ok (.iconst 1, 1) := by decide +kernel
theorem dL_law_780 : decode cL_law 780 = .ok (.iadd, 1) := by decide +kernel
theorem dL_law_781 : decode cL_law 781 = .ok (.iaload, 1) := by decide +kernel
theorem dL_law_782 : decode cL_law 782 = .ok (.invokevirtual 113, 3) := by decide +kernel
theorem dL_law_785 : decode cL_law 785 = .ok (.if_icmp .eq 28, 3) := by decide +kernel
theorem dL_law_788 : decode cL_law 788 = .ok (.iconst 0, 1) := by decide +kernel
theorem dL_law_789 : decode cL_law 789 = .ok (.ireturn, 1) := by decide +kernel
theorem dL_law_790 : decode cL_law 790 = .ok (.aload_n 1, 1) := by decide +kernel
theorem dL_law_791 : decode cL_law 791 = .ok (.aload_n 0, 1) := by decide +kernel
theorem dL_law_792 : decode cL_law 792 = .ok (.iload_n 3, 1) := by decide +kernel
theorem dL_law_793 : decode cL_law 793 = .ok (.iconst 1, 1) := by decide +kernel
theorem dL_law_794 : decode cL_law 794 = .ok (.iadd, 1) := by decide +kernel
theorem dL_law_795 : decode cL_law 795 = .ok (.iaload, 1) := by decide +kernel
theorem dL_law_796 : decode cL_law 796 = .ok (.invokevirtual 114, 3) := by decide +kernel
theorem dL_law_799 : decode cL_law 799 = .ok (.aload_n 2, 1) := by decide +kernel
theorem dL_law_800 : decode cL_law 800 = .ok (.aload_n 0, 1) := by decide +kernel
theorem dL_law_801 : decode cL_law 801 = .ok (.iload_n 3, 1) := by decide +kernel
theorem dL_law_802 : decode cL_law 802 = .ok (.iconst 1, 1) := by decide +kernel
theorem dL_law_803 : decode cL_law 803 = .ok (.iadd, 1) := by decide +kernel
theorem dL_law_804 : decode cL_law 804 = .ok (.iaload, 1) := by decide +kernel
theorem dL_law_805 : decode cL_law 805 = .ok (.invokevirtual 117, 3) := by decide +kernel
theorem dL_law_808 : decode cL_law 808 = .ok (.if_icmp .eq 5, 3) := by decide +kernel
theorem dL_law_811 : decode cL_law 811 = .ok (.iconst 0, 1) := by decide +kernel
theorem dL_law_812 : decode cL_law 812 = .ok (.ireturn, 1) := by decide +kernel
theorem dL_law_813 : decode cL_law 813 = .ok (.iinc 3 5, 3) := by decide +kernel
theorem dL_law_816 : decode cL_law 816 = .ok (.goto (-798), 3) := by decide +kernel
theorem dL_law_819 : decode cL_law 819 = .ok (.iconst 1, 1) := by decide +kernel
theorem dL_law_820 : decode cL_law 820 = .ok (.ireturn, 1) := by decide +kernel
end
section
theorem g_getIv {X : gX} {E : gE} {cc : ByteArray} {own : String} {nL f lo : Nat} {M : gM} {pc n : Nat} {ls : gLs} {st : List Value} {Q : State → Prop} {x : Int32} (hX : gOk X E cc own nL f lo) {idx ci k a : Nat} {fs : List (Option Nat)} (hF : gFl own idx ci k) (hs : shp[a]? = some (0, ci, fs)) (hf : fs[k]? = some none) (hv : M a k = x) (hd : decode cc pc = .ok (.getfield idx, 3)) (hn : pc + 3 = n) (kk : gG X E M n ls (.int x :: st) Q) : gG X E M pc ls (.ref a :: st) Q := g_getI hX hF hs hf hd hn (hv ▸ kk)
theorem g_ialdv {X : gX} {E : gE} {cc : ByteArray} {own : String} {nL f lo : Nat} {M : gM} {pc n : Nat} {ls : gLs} {st : List Value} {Q : State → Prop} {x : Int32} (hX : gOk X E cc own nL f lo) {a N j : Nat} {fs : List (Option Nat)} {i : Int32} (hs : shp[a]? = some (1, N, fs)) (hi : i = nI j) (hj : j < N) (hN : Nat.ble N 5000 = true) (hv : M a j = x) (hd : decode cc pc = .ok (.iaload, 1)) (hn : pc + 1 = n) (kk : gG X E M n ls (.int x :: st) Q) : gG X E M pc ls (.int i :: .ref a :: st) Q := g_iald hX hs hi hj hN hd hn (hv ▸ kk)
theorem g_caldv {X : gX} {E : gE} {cc : ByteArray} {own : String} {nL f lo : Nat} {M : gM} {pc n : Nat} {ls : gLs} {st : List Value} {Q : State → Prop} {x : Int32} (hX : gOk X E cc own nL f lo) {a N j : Nat} {fs : List (Option Nat)} {i : Int32} (hs : shp[a]? = some (2, N, fs)) (hi : i = nI j) (hj : j < N) (hN : Nat.ble N 5000 = true) (hv : M a j = x) (hd : decode cc pc = .ok (.caload, 1)) (hn : pc + 1 = n) (kk : gG X E M n ls (.int x :: st) Q) : gG X E M pc ls (.int i :: .ref a :: st) Q := g_cald hX hs hi hj hN hd hn (hv ▸ kk)
theorem gset_gset (M : gM) (a : Nat) (r s : Nat → Int32) : gset (gset M a r) a s = gset M a s := by
  funext b; simp only [gset]; split <;> rfl
theorem gset_self (M : gM) (a : Nat) : gset M a (M a) = M := by
  funext b; simp only [gset]; split
  · next h => rw [h]
  · rfl
def mapTo (k : Nat) (g r : Nat → Int32) : Nat → Int32 := fun j => if j < k then g j else r j
theorem mapTo_0 (g r : Nat → Int32) : mapTo 0 g r = r := by funext j; simp [mapTo]
theorem mapTo_succ (k : Nat) (g r : Nat → Int32) : upd (mapTo k g r) k (g k) = mapTo (k + 1) g r := by
  funext j
  simp only [upd, mapTo]
  by_cases h : j = k
  · subst h; simp
  · by_cases h2 : j < k
    · simp [h, h2, show j < k + 1 by omega]
    · simp [h, h2, show ¬ j < k + 1 by omega]
theorem upd_s (r : Nat → Int32) (k : Nat) (x : Int32) : upd r k x k = x := by simp [upd]
theorem upd_n (r : Nat → Int32) (x : Int32) {j k : Nat} (h : j ≠ k) : upd r k x j = r j := by simp [upd, h]
/-- a row with x put in at p, the rest behind moved on, up to n -/
def shf (p n : Nat) (r : Nat → Int32) : Nat → Int32 := fun j => if p < j ∧ j ≤ n then r (j - 1) else r j
def insAt (p n : Nat) (x : Int32) (r : Nat → Int32) : Nat → Int32 := upd (shf p n r) p x
theorem shf_0 (n : Nat) (r : Nat → Int32) : shf n n r = r := by
  funext j; simp only [shf]
  rw [if_neg (by omega)]
theorem shf_lo {p n j : Nat} {r : Nat → Int32} (h : j ≤ p) : shf p n r j = r j := if_neg (by omega)
theorem shf_step {p n : Nat} (r : Nat → Int32) (h : p + 1 ≤ n) : upd (shf (p + 1) n r) (p + 1) (shf (p + 1) n r p) = shf p n r := by
  rw [shf_lo (by omega : p ≤ p + 1)]
  funext j
  simp only [upd, shf]
  by_cases h1 : j = p + 1
  · subst h1; rw [if_pos rfl, if_pos (by omega)]; rfl
  · rw [if_neg h1]
    by_cases h2 : p + 1 < j ∧ j ≤ n
    · rw [if_pos h2, if_pos (by omega)]
    · rw [if_neg h2, if_neg (by omega)]
theorem gGM {X : gX} {E : gE} {M M' : gM} {pc : Nat} {ls : gLs} {st : List Value} {Q : State → Prop} (e : M = M') (h : gG X E M' pc ls st Q) : gG X E M pc ls st Q := e ▸ h
theorem upd_same {r : Nat → Int32} {k : Nat} {x : Int32} (h : r k = x) : upd r k x = r := by
  funext j; simp only [upd]; split
  · next e => rw [e, h]
  · rfl
end
section
/-! pure functions of rows, shared by the class and the reference -/
def sumTo (n : Nat) (f : Nat → Int32) : Int32 := match n with
  | 0 => 0
  | n + 1 => sumTo n f + f n
def cntTo (n : Nat) (p : Nat → Bool) : Nat := match n with
  | 0 => 0
  | n + 1 => cntTo n p + (if p n then 1 else 0)
def anyTo (n : Nat) (p : Nat → Bool) : Bool := match n with
  | 0 => false
  | n + 1 => anyTo n p || p n
/-- the first place with p among those below n -/
def fndTo (n : Nat) (p : Nat → Bool) : Option Nat := match n with
  | 0 => none
  | n + 1 => match fndTo n p with
    | some k => some k
    | none => if p n then some n else none
/-- the best place below n of those that are ok; lt k b: k goes ahead of the best so far -/
def isB (lt : Nat → Nat → Bool) (o : Option Nat) (n : Nat) : Bool := match o with
  | none => true
  | some b => lt n b
def bestTo (n : Nat) (ok : Nat → Bool) (lt : Nat → Nat → Bool) : Option Nat := match n with
  | 0 => none
  | n + 1 => if ok n && isB lt (bestTo n ok lt) n then some n else bestTo n ok lt
def optI (d : Int32) (o : Option Nat) : Int32 := match o with
  | some k => nI k
  | none => d
theorem sumTo_congr {n : Nat} {f g : Nat → Int32} (h : ∀ k, k < n → f k = g k) : sumTo n f = sumTo n g := by
  induction n with
  | zero => rfl
  | succ n ih => simp only [sumTo]; rw [ih (fun k hk => h k (by omega)), h n (by omega)]
theorem cntTo_congr {n : Nat} {f g : Nat → Bool} (h : ∀ k, k < n → f k = g k) : cntTo n f = cntTo n g := by
  induction n with
  | zero => rfl
  | succ n ih => simp only [cntTo]; rw [ih (fun k hk => h k (by omega)), h n (by omega)]
theorem cntTo_le (n : Nat) (p : Nat → Bool) : cntTo n p ≤ n := by
  induction n with
  | zero => exact Nat.le_refl 0
  | succ n ih => simp only [cntTo]; split <;> omega
theorem anyTo_congr {n : Nat} {f g : Nat → Bool} (h : ∀ k, k < n → f k = g k) : anyTo n f = anyTo n g := by
  induction n with
  | zero => rfl
  | succ n ih => simp only [anyTo]; rw [ih (fun k hk => h k (by omega)), h n (by omega)]
theorem anyTo_true {n : Nat} {p : Nat → Bool} : anyTo n p = true ↔ ∃ k, k < n ∧ p k = true := by
  induction n with
  | zero => simp [anyTo]
  | succ n ih =>
    simp only [anyTo, Bool.or_eq_true, ih]
    constructor
    · rintro (⟨k, h1, h2⟩ | h)
      · exact ⟨k, by omega, h2⟩
      · exact ⟨n, by omega, h⟩
    · rintro ⟨k, h1, h2⟩
      by_cases hk : k = n
      · subst hk; exact Or.inr h2
      · exact Or.inl ⟨k, by omega, h2⟩
theorem anyTo_false {n : Nat} {p : Nat → Bool} : anyTo n p = false ↔ ∀ k, k < n → p k = false := by
  rw [← Bool.not_eq_true, anyTo_true]
  constructor
  · intro h k hk
    cases hp : p k with
    | false => rfl
    | true => exact absurd ⟨k, hk, hp⟩ h
  · rintro h ⟨k, hk, hp⟩
    rw [h k hk] at hp; cases hp
theorem fndTo_congr {n : Nat} {f g : Nat → Bool} (h : ∀ k, k < n → f k = g k) : fndTo n f = fndTo n g := by
  induction n with
  | zero => rfl
  | succ n ih => simp only [fndTo]; rw [ih (fun k hk => h k (by omega)), h n (by omega)]
theorem fndTo_some {n : Nat} {p : Nat → Bool} {k : Nat} (h : fndTo n p = some k) : k < n ∧ p k = true ∧ ∀ j, j < k → p j = false := by
  induction n with
  | zero => cases h
  | succ n ih =>
    simp only [fndTo] at h
    cases hf : fndTo n p with
    | some q =>
      rw [hf] at h; cases h
      obtain ⟨h1, h2, h3⟩ := ih hf
      exact ⟨by omega, h2, h3⟩
    | none =>
      rw [hf] at h
      have hn : ∀ j, j < n → p j = false := by
        clear ih h
        induction n with
        | zero => intro j hj; omega
        | succ n ih2 =>
          simp only [fndTo] at hf
          cases hf2 : fndTo n p with
          | some q => rw [hf2] at hf; cases hf
          | none =>
            rw [hf2] at hf
            intro j hj
            by_cases e : j = n
            · subst e
              cases hp : p j with
              | false => rfl
              | true => simp [hp] at hf
            · exact ih2 hf2 j (by omega)
      cases hp : p n with
      | true => simp [hp] at h; subst h; exact ⟨by omega, hp, hn⟩
      | false => simp [hp] at h
theorem fndTo_none {n : Nat} {p : Nat → Bool} (h : fndTo n p = none) : ∀ j, j < n → p j = false := by
  induction n with
  | zero => intro j hj; omega
  | succ n ih =>
    simp only [fndTo] at h
    cases hf : fndTo n p with
    | some q => rw [hf] at h; cases h
    | none =>
      rw [hf] at h
      intro j hj
      by_cases e : j = n
      · subst e
        cases hp : p j with
        | false => rfl
        | true => simp [hp] at h
      · exact ih hf j (by omega)
theorem fndTo_eq {n k : Nat} {p : Nat → Bool} (hk : k < n) (hp : p k = true) (hj : ∀ j, j < k → p j = false) : fndTo n p = some k := by
  cases h : fndTo n p with
  | none => rw [fndTo_none h k hk] at hp; cases hp
  | some q =>
    obtain ⟨h1, h2, h3⟩ := fndTo_some h
    rcases Nat.lt_trichotomy q k with h4 | h4 | h4
    · rw [hj q h4] at h2; cases h2
    · rw [h4]
    · rw [h3 k h4] at hp; cases hp
theorem fndTo_eqn {n : Nat} {p : Nat → Bool} (hj : ∀ j, j < n → p j = false) : fndTo n p = none := by
  cases h : fndTo n p with
  | none => rfl
  | some q =>
    obtain ⟨h1, h2, -⟩ := fndTo_some h
    rw [hj q h1] at h2; cases h2
theorem bestTo_lt {n k : Nat} {ok : Nat → Bool} {lt : Nat → Nat → Bool} (h : bestTo n ok lt = some k) : k < n ∧ ok k = true := by
  induction n with
  | zero => cases h
  | succ n ih =>
    simp only [bestTo] at h
    split at h
    · next c => cases h; simp only [Bool.and_eq_true] at c; exact ⟨by omega, c.1⟩
    · obtain ⟨h1, h2⟩ := ih h; exact ⟨by omega, h2⟩
theorem bestTo_congr {n : Nat} {ok ok' : Nat → Bool} {lt lt' : Nat → Nat → Bool} (h : ∀ k, k < n → ok k = ok' k) (h2 : ∀ k b, b < k → k < n → ok k = true → ok b = true → lt k b = lt' k b) : bestTo n ok lt = bestTo n ok' lt' := by
  induction n with
  | zero => rfl
  | succ n ih =>
    have e := ih (fun k hk => h k (by omega)) (fun k b hb hk => h2 k b hb (by omega))
    simp only [bestTo]
    rw [← e, ← h n (by omega)]
    cases hb : bestTo n ok lt with
    | none => rfl
    | some b =>
      obtain ⟨h3, h4⟩ := bestTo_lt hb
      cases hn : ok n with
      | false => simp
      | true => simp [isB, h2 n b h3 (by omega) hn h4]
theorem bestTo_none {n : Nat} {ok : Nat → Bool} {lt : Nat → Nat → Bool} : bestTo n ok lt = none ↔ ∀ k, k < n → ok k = false := by
  induction n with
  | zero => simp [bestTo]
  | succ n ih =>
    simp only [bestTo]
    constructor
    · intro h
      split at h
      · cases h
      · next c =>
        have h1 := ih.mp h
        intro k hk
        by_cases e : k = n
        · subst e
          rw [h] at c
          simpa [isB] using c
        · exact h1 k (by omega)
    · intro h
      have h1 : ok n = false := h n (by omega)
      simp [h1]
      exact ih.mpr (fun k hk => h k (by omega))
def inR (c : Int32) (n : Nat) : Bool := decide (0 ≤ c ∧ c < nI n)
theorem inR_nI {j n : Nat} (hj : j < 2 ^ 31) (hn : n < 2 ^ 31) : inR (nI j) n = decide (j < n) := by
  have h := nI_ltI hj hn
  have h0 : (0 : Int32) ≤ nI j := nI_pos' hj
  simp [inR, h, h0]
theorem inR_neg {c : Int32} {n : Nat} (h : c < 0) : inR c n = false := by
  have : ¬ (0 : Int32) ≤ c := Int32.not_le.mpr h
  simp [inR, this]
theorem inR_ge {c : Int32} {n : Nat} (h : nI n ≤ c) : inR c n = false := by
  have : ¬ c < nI n := Int32.not_lt.mpr h
  simp [inR, this]
theorem inR_t {c : Int32} {n : Nat} (hn : n < 2 ^ 31) (h : inR c n = true) : ∃ j, j < n ∧ c = nI j := by
  rcases pk_ix c hn with h1 | h1 | h1
  · rw [inR_neg h1] at h; cases h
  · rw [inR_ge h1] at h; cases h
  · exact h1
theorem inR_ok {c : Int32} {n : Nat} (h0 : ¬ c < 0) (h : ¬ nI n ≤ c) : inR c n = true := by
  have h0 := Int32.not_lt.mp h0
  have h := Int32.not_le.mp h
  simp [inR, h0, h]
/-- from lo to hi -/
def inI (c : Int32) (lo hi : Int32) : Bool := decide (lo ≤ c ∧ c ≤ hi)
theorem nI_ne_m1 {k : Nat} (h : k < 2 ^ 31) : ¬ nI k = -1 := by
  intro e
  have h1 := nI_toInt h
  rw [e] at h1
  have : ((-1 : Int32)).toInt = -1 := by decide
  omega
theorem optI_m1 {o : Option Nat} (h : ∀ k, o = some k → k < 2 ^ 31) : optI (-1) o = -1 ↔ o = none := by
  cases o with
  | none => simp [optI]
  | some k => simp [optI, nI_ne_m1 (h k rfl)]
end
section
/-! CommitteeBallots$Members: the members of the present state (cell 2) -/
theorem c_X4_has (E : gE) (M : gM) (n : Nat) (c : Int32) (hn : M 2 4 = nI n) (hb : n ≤ 10) : gMet E k_X4_has [.ref 2, .int c] M (gInt fun r M' => r = gB (inR c n) ∧ M' = M) := by
  refine gMet.of (by decide +kernel) rfl (Nat.le_of_ble_eq_true rfl) (fun X hX hR => ?_)
  refine g_iload_n (i := 1) hX dX4_has_0 rfl rfl rfl ?_
  refine g_if_lt (tgt := 16) hX dX4_has_1 (by decide) rfl (fun c1 => ?_) (fun c1 => ?_)
  · skip
    refine g_iconst hX dX4_has_16 ic_0 rfl ?_
    refine g_zret hX hR (by first | exact Or.inl rfl | exact Or.inr rfl | exact gB_01 _) dX4_has_17 ?_
    exact ⟨by first | exact gB_1 (inR_ok (by assumption) (by assumption)) | exact gB_n (inR_neg (by assumption)) | exact gB_n (inR_ge (by assumption)), rfl⟩
  · skip
    refine g_iload_n (i := 1) hX dX4_has_4 rfl rfl rfl ?_
    refine g_aload_n (i := 0) hX dX4_has_5 rfl rfl rfl ?_
    refine g_getI hX fl_X4_28 rfl rfl dX4_has_6 rfl ?_
    rw [hn]
    first | refine g_icmp_geN (tgt := 16) hX dX4_has_9 (by decide) rfl (by omega) (by omega) (fun c9 => ?_) (fun c9 => ?_) | refine g_icmp_ge (tgt := 16) hX dX4_has_9 (by decide) rfl (fun c9 => ?_) (fun c9 => ?_)
    · skip
      refine g_iconst hX dX4_has_16 ic_0 rfl ?_
      refine g_zret hX hR (by first | exact Or.inl rfl | exact Or.inr rfl | exact gB_01 _) dX4_has_17 ?_
      exact ⟨by first | exact gB_1 (inR_ok (by assumption) (by assumption)) | exact gB_n (inR_neg (by assumption)) | exact gB_n (inR_ge (by assumption)), rfl⟩
    · skip
      refine g_iconst hX dX4_has_12 ic_1 rfl ?_
      refine g_goto (n := 17) hX dX4_has_13 (by decide) ?_
      refine g_zret hX hR (by first | exact Or.inl rfl | exact Or.inr rfl | exact gB_01 _) dX4_has_17 ?_
      exact ⟨by first | exact gB_1 (inR_ok (by assumption) (by assumption)) | exact gB_n (inR_neg (by assumption)) | exact gB_n (inR_ge (by assumption)), rfl⟩
theorem c_X4_hasVoted (E : gE) (M : gM) (k : Nat) (hk : k < 10) : gMet E k_X4_hasVoted [.ref 2, .int (nI k)] M (gInt fun r M' => r = gB (decide (M 5 k ≠ -1)) ∧ M' = M) := by
  refine gMet.of (by decide +kernel) rfl (Nat.le_of_ble_eq_true rfl) (fun X hX hR => ?_)
  refine g_aload_n (i := 0) hX dX4_hasVoted_0 rfl rfl rfl ?_
  refine g_getR hX fl_X4_18 rfl rfl dX4_hasVoted_1 rfl ?_
  refine g_iload_n (i := 1) hX dX4_hasVoted_4 rfl rfl rfl ?_
  refine g_iald hX rfl (rfl) (by omega) rfl dX4_hasVoted_5 rfl ?_
  refine g_iconst hX dX4_hasVoted_6 ic_m1 rfl ?_
  first | refine g_icmp_eqN (tgt := 14) hX dX4_hasVoted_7 (by decide) rfl (by omega) (by omega) (fun c7 => ?_) (fun c7 => ?_) | refine g_icmp_eq (tgt := 14) hX dX4_hasVoted_7 (by decide) rfl (fun c7 => ?_) (fun c7 => ?_)
  · skip
    refine g_iconst hX dX4_hasVoted_14 ic_0 rfl ?_
    refine g_zret hX hR (by first | exact Or.inl rfl | exact Or.inr rfl | exact gB_01 _) dX4_hasVoted_15 ?_
    refine ⟨?_, rfl⟩; first | exact gB_1 (by simp_all) | exact gB_n (by simp_all)
  · skip
    refine g_iconst hX dX4_hasVoted_10 ic_1 rfl ?_
    refine g_goto (n := 15) hX dX4_hasVoted_11 (by decide) ?_
    refine g_zret hX hR (by first | exact Or.inl rfl | exact Or.inr rfl | exact gB_01 _) dX4_hasVoted_15 ?_
    refine ⟨?_, rfl⟩; first | exact gB_1 (by simp_all) | exact gB_n (by simp_all)
theorem c_X4_voters (E : gE) (M : gM) (n : Nat) (hn : M 2 4 = nI n) (hb : n ≤ 10) : gMet E k_X4_voters [.ref 2] M (gInt fun r M' => r = nI (cntTo n (fun k => decide (M 5 k ≠ -1))) ∧ M' = M) := by
  refine gMet.of (by decide +kernel) rfl (Nat.le_of_ble_eq_true rfl) (fun X hX hR => ?_)
  have loop := up_loop n (fun k => gG X E M 4 [some (.ref 2), some (.int (nI (cntTo k (fun k => decide (M 5 k ≠ -1))))), some (.int (nI k))] [] (gQ X E (gInt fun r M' => r = nI (cntTo n (fun k => decide (M 5 k ≠ -1))) ∧ M' = M))) ?_ ?_
  · skip
    refine g_iconst hX dX4_voters_0 ic_0 rfl ?_
    refine g_istore_n (i := 1) hX dX4_voters_1 rfl (Nat.le_of_ble_eq_true rfl) rfl ?_
    refine g_iconst hX dX4_voters_2 ic_0 rfl ?_
    refine g_istore_n (i := 2) hX dX4_voters_3 rfl (Nat.le_of_ble_eq_true rfl) rfl ?_
    exact loop 0 (Nat.zero_le _)
  · skip
    refine g_iload_n (i := 2) hX dX4_voters_4 rfl rfl rfl ?_
    refine g_aload_n (i := 0) hX dX4_voters_5 rfl rfl rfl ?_
    refine g_getIv hX fl_X4_28 rfl rfl (hn) dX4_voters_6 rfl ?_
    first | refine g_icmp_geN (tgt := 29) hX dX4_voters_9 (by decide) rfl (by omega) (by omega) (fun c9 => ?_) (fun c9 => absurd c9 (by omega)) | refine g_icmp_ge (tgt := 29) hX dX4_voters_9 (by decide) rfl (fun c9 => ?_) (fun c9 => absurd c9 (by omega))
    refine g_iload_n (i := 1) hX dX4_voters_29 rfl rfl rfl ?_
    refine g_iret hX hR dX4_voters_30 ?_
    exact ⟨rfl, rfl⟩
  · intro k hk ih
    refine g_iload_n (i := 2) hX dX4_voters_4 rfl rfl rfl ?_
    refine g_aload_n (i := 0) hX dX4_voters_5 rfl rfl rfl ?_
    refine g_getIv hX fl_X4_28 rfl rfl (hn) dX4_voters_6 rfl ?_
    first | refine g_icmp_geN (tgt := 29) hX dX4_voters_9 (by decide) rfl (by omega) (by omega) (fun c9 => absurd c9 (by omega)) (fun c9 => ?_) | refine g_icmp_ge (tgt := 29) hX dX4_voters_9 (by decide) rfl (fun c9 => absurd c9 (by omega)) (fun c9 => ?_)
    refine g_aload_n (i := 0) hX dX4_voters_12 rfl rfl rfl ?_
    refine g_iload_n (i := 2) hX dX4_voters_13 rfl rfl rfl ?_
    refine g_callVi hX (c_X4_hasVoted E M k (by omega)) kf_X4_hasVoted rfl wk_X4_32 rfl rfl rfl rfl rfl dX4_voters_14 rfl (fun x14 M14 h14 => ?_)
    obtain ⟨rfl, hm⟩ := h14; have hm := hm.symm; subst hm
    first | refine g_if_eqB (tgt := 23) hX dX4_voters_17 (by decide) rfl (fun c17 => ?_) (fun c17 => ?_) | refine g_if_eq (tgt := 23) hX dX4_voters_17 (by decide) rfl (fun c17 => ?_) (fun c17 => ?_)
    · skip
      first | refine g_iincN hX dX4_voters_23 ic_1 rfl (Nat.le_of_ble_eq_true rfl) rfl ?_ | refine g_iinc hX dX4_voters_23 ic_1 rfl rfl (Nat.le_of_ble_eq_true rfl) rfl ?_
      refine g_goto (n := 4) hX dX4_voters_26 (by decide) ?_
      exact (by simpa [cntTo, c17] using ih)
    · skip
      first | refine g_iincN hX dX4_voters_20 ic_1 rfl (Nat.le_of_ble_eq_true rfl) rfl ?_ | refine g_iinc hX dX4_voters_20 ic_1 rfl rfl (Nat.le_of_ble_eq_true rfl) rfl ?_
      first | refine g_iincN hX dX4_voters_23 ic_1 rfl (Nat.le_of_ble_eq_true rfl) rfl ?_ | refine g_iinc hX dX4_voters_23 ic_1 rfl rfl (Nat.le_of_ble_eq_true rfl) rfl ?_
      refine g_goto (n := 4) hX dX4_voters_26 (by decide) ?_
      exact (by simpa [cntTo, c17] using ih)
theorem isSet_pow : ∀ n, n ≤ 10 → nI 1 <<< (nI n &&& 31) = nI (2 ^ n) := by decide
theorem c_X4_isSet (E : gE) (M : gM) (n : Nat) (c : Int32) (hn : M 2 4 = nI n) (hb : n ≤ 10) : gMet E k_X4_isSet [.ref 2, .int c] M (gInt fun r M' => r = gB (inR c (2 ^ n)) ∧ M' = M) := by
  refine gMet.of (by decide +kernel) rfl (Nat.le_of_ble_eq_true rfl) (fun X hX hR => ?_)
  refine g_iload_n (i := 1) hX dX4_isSet_0 rfl rfl rfl ?_
  refine g_if_lt (tgt := 18) hX dX4_isSet_1 (by decide) rfl (fun c1 => ?_) (fun c1 => ?_)
  · skip
    refine g_iconst hX dX4_isSet_18 ic_0 rfl ?_
    refine g_zret hX hR (by first | exact Or.inl rfl | exact Or.inr rfl | exact gB_01 _) dX4_isSet_19 ?_
    exact ⟨by first | exact gB_1 (inR_ok (by assumption) (by assumption)) | exact gB_n (inR_neg (by assumption)) | exact gB_n (inR_ge (by assumption)), rfl⟩
  · skip
    refine g_iload_n (i := 1) hX dX4_isSet_4 rfl rfl rfl ?_
    refine g_iconst hX dX4_isSet_5 ic_1 rfl ?_
    refine g_aload_n (i := 0) hX dX4_isSet_6 rfl rfl rfl ?_
    refine g_getIv hX fl_X4_28 rfl rfl (hn) dX4_isSet_7 rfl ?_
    refine g_ishl hX dX4_isSet_10 rfl ?_
    rw [isSet_pow n hb]
    first | refine g_icmp_geN (tgt := 18) hX dX4_isSet_11 (by decide) rfl (by omega) (by omega) (fun c11 => ?_) (fun c11 => ?_) | refine g_icmp_ge (tgt := 18) hX dX4_isSet_11 (by decide) rfl (fun c11 => ?_) (fun c11 => ?_)
    · skip
      refine g_iconst hX dX4_isSet_18 ic_0 rfl ?_
      refine g_zret hX hR (by first | exact Or.inl rfl | exact Or.inr rfl | exact gB_01 _) dX4_isSet_19 ?_
      exact ⟨by first | exact gB_1 (inR_ok (by assumption) (by assumption)) | exact gB_n (inR_neg (by assumption)) | exact gB_n (inR_ge (by assumption)), rfl⟩
    · skip
      refine g_iconst hX dX4_isSet_14 ic_1 rfl ?_
      refine g_goto (n := 19) hX dX4_isSet_15 (by decide) ?_
      refine g_zret hX hR (by first | exact Or.inl rfl | exact Or.inr rfl | exact gB_01 _) dX4_isSet_19 ?_
      exact ⟨by first | exact gB_1 (inR_ok (by assumption) (by assumption)) | exact gB_n (inR_neg (by assumption)) | exact gB_n (inR_ge (by assumption)), rfl⟩
def m_member (M : gM) (n : Nat) (w : Int32) : gM := gset (gset (gset (gset (gset M 3 (upd (M 3) n w)) 4 (upd (M 4) n 0)) 5 (upd (M 5) n (-1))) 6 (upd (M 6) n 0)) 2 (upd (M 2) 4 (nI (n + 1)))
theorem c_X4_append (E : gE) (M : gM) (n : Nat) (w : Int32) (hn : M 2 4 = nI n) (hb : n < 10) : gMet E k_X4_append [.ref 2, .int w] M (gInt fun r M' => r = nI n ∧ M' = m_member M n w) := by
  refine gMet.of (by decide +kernel) rfl (Nat.le_of_ble_eq_true rfl) (fun X hX hR => ?_)
  refine g_aload_n (i := 0) hX dX4_append_0 rfl rfl rfl ?_
  refine g_getIv hX fl_X4_28 rfl rfl (hn) dX4_append_1 rfl ?_
  refine g_bipush hX dX4_append_4 bc_10 rfl ?_
  first | refine g_icmp_ltN (tgt := 11) hX dX4_append_6 (by decide) rfl (by omega) (by omega) (fun c6 => ?_) (fun c6 => absurd c6 (by omega)) | refine g_icmp_lt (tgt := 11) hX dX4_append_6 (by decide) rfl (fun c6 => ?_) (fun c6 => absurd c6 (by omega))
  refine g_aload_n (i := 0) hX dX4_append_11 rfl rfl rfl ?_
  refine g_getR hX fl_X4_9 rfl rfl dX4_append_12 rfl ?_
  refine g_aload_n (i := 0) hX dX4_append_15 rfl rfl rfl ?_
  refine g_getIv hX fl_X4_28 rfl rfl (hn) dX4_append_16 rfl ?_
  refine g_iload_n (i := 1) hX dX4_append_19 rfl rfl rfl ?_
  refine g_iast hX rfl (rfl) (by omega) rfl dX4_append_20 rfl ?_
  refine g_aload_n (i := 0) hX dX4_append_21 rfl rfl rfl ?_
  refine g_getR hX fl_X4_15 rfl rfl dX4_append_22 rfl ?_
  refine g_aload_n (i := 0) hX dX4_append_25 rfl rfl rfl ?_
  refine g_getIv hX fl_X4_28 rfl rfl (hn) dX4_append_26 rfl ?_
  refine g_iconst hX dX4_append_29 ic_0 rfl ?_
  refine g_iast hX rfl (rfl) (by omega) rfl dX4_append_30 rfl ?_
  refine g_aload_n (i := 0) hX dX4_append_31 rfl rfl rfl ?_
  refine g_getR hX fl_X4_18 rfl rfl dX4_append_32 rfl ?_
  refine g_aload_n (i := 0) hX dX4_append_35 rfl rfl rfl ?_
  refine g_getIv hX fl_X4_28 rfl rfl (hn) dX4_append_36 rfl ?_
  refine g_iconst hX dX4_append_39 ic_m1 rfl ?_
  refine g_iast hX rfl (rfl) (by omega) rfl dX4_append_40 rfl ?_
  refine g_aload_n (i := 0) hX dX4_append_41 rfl rfl rfl ?_
  refine g_getR hX fl_X4_21 rfl rfl dX4_append_42 rfl ?_
  refine g_aload_n (i := 0) hX dX4_append_45 rfl rfl rfl ?_
  refine g_getIv hX fl_X4_28 rfl rfl (hn) dX4_append_46 rfl ?_
  refine g_iconst hX dX4_append_49 ic_0 rfl ?_
  refine g_iast hX rfl (rfl) (by omega) rfl dX4_append_50 rfl ?_
  refine g_aload_n (i := 0) hX dX4_append_51 rfl rfl rfl ?_
  refine g_dup hX dX4_append_52 rfl rfl ?_
  refine g_getIv hX fl_X4_28 rfl rfl (hn) dX4_append_53 rfl ?_
  refine g_iconst hX dX4_append_56 ic_1 rfl ?_
  first | refine g_iaddN hX dX4_append_57 rfl ?_ | refine g_iadd hX dX4_append_57 rfl ?_
  refine g_putI hX fp_X4_28 rfl rfl dX4_append_58 rfl ?_
  refine g_aload_n (i := 0) hX dX4_append_61 rfl rfl rfl ?_
  refine g_getIv (x := nI (n + 1)) hX fl_X4_28 rfl rfl (rfl) dX4_append_62 rfl ?_
  refine g_iconst hX dX4_append_65 ic_1 rfl ?_
  refine g_isubN hX dX4_append_66 (by omega) rfl ?_
  refine g_iret hX hR dX4_append_67 ?_
  exact ⟨rfl, rfl⟩
def m_misses (M : gM) (n : Nat) : gM := gset (gset M 4 (mapTo n (fun k => if M 5 k = -1 then M 4 k + 1 else 0) (M 4))) 6 (mapTo n (fun k => if M 5 k = -1 then M 6 k else M 6 k + 1) (M 6))
theorem c_X4_noteMisses (E : gE) (M : gM) (n : Nat) (hn : M 2 4 = nI n) (hb : n ≤ 10) : gMet E k_X4_noteMisses [.ref 2] M (gVoid fun M' => M' = m_misses M n) := by
  refine gMet.of (by decide +kernel) rfl (Nat.le_of_ble_eq_true rfl) (fun X hX hR => ?_)
  have loop := up_loop n (fun k => gG X E (m_misses M k) 2 [some (.ref 2), some (.int (nI k))] [] (gQ X E (gVoid fun M' => M' = m_misses M n))) ?_ ?_
  · skip
    refine g_iconst hX dX4_noteMisses_0 ic_0 rfl ?_
    refine g_istore_n (i := 1) hX dX4_noteMisses_1 rfl (Nat.le_of_ble_eq_true rfl) rfl ?_
    exact gGM (by simp only [m_misses, mapTo_0, gset_self]) (loop 0 (Nat.zero_le _))
  · skip
    refine g_iload_n (i := 1) hX dX4_noteMisses_2 rfl rfl rfl ?_
    refine g_aload_n (i := 0) hX dX4_noteMisses_3 rfl rfl rfl ?_
    refine g_getIv (x := nI n) hX fl_X4_28 rfl rfl (hn) dX4_noteMisses_4 rfl ?_
    first | refine g_icmp_geN (tgt := 54) hX dX4_noteMisses_7 (by decide) rfl (by omega) (by omega) (fun c7 => ?_) (fun c7 => absurd c7 (by omega)) | refine g_icmp_ge (tgt := 54) hX dX4_noteMisses_7 (by decide) rfl (fun c7 => ?_) (fun c7 => absurd c7 (by omega))
    refine g_vret hX hR dX4_noteMisses_54 ?_
    rfl
  · intro k hk ih
    have e4 : mapTo k (fun k => if M 5 k = -1 then M 4 k + 1 else 0) (M 4) k = M 4 k := by simp [mapTo]
    have e6 : mapTo k (fun k => if M 5 k = -1 then M 6 k else M 6 k + 1) (M 6) k = M 6 k := by simp [mapTo]
    have s4 := mapTo_succ k (fun k => if M 5 k = -1 then M 4 k + 1 else 0) (M 4)
    have s6 := mapTo_succ k (fun k => if M 5 k = -1 then M 6 k else M 6 k + 1) (M 6)
    refine g_iload_n (i := 1) hX dX4_noteMisses_2 rfl rfl rfl ?_
    refine g_aload_n (i := 0) hX dX4_noteMisses_3 rfl rfl rfl ?_
    refine g_getIv (x := nI n) hX fl_X4_28 rfl rfl (hn) dX4_noteMisses_4 rfl ?_
    first | refine g_icmp_geN (tgt := 54) hX dX4_noteMisses_7 (by decide) rfl (by omega) (by omega) (fun c7 => absurd c7 (by omega)) (fun c7 => ?_) | refine g_icmp_ge (tgt := 54) hX dX4_noteMisses_7 (by decide) rfl (fun c7 => absurd c7 (by omega)) (fun c7 => ?_)
    refine g_aload_n (i := 0) hX dX4_noteMisses_10 rfl rfl rfl ?_
    refine g_iload_n (i := 1) hX dX4_noteMisses_11 rfl rfl rfl ?_
    refine g_callVi hX (c_X4_hasVoted E (m_misses M k) k (by omega)) kf_X4_hasVoted rfl wk_X4_32 rfl rfl rfl rfl rfl dX4_noteMisses_12 rfl (fun x12 M12 h12 => ?_)
    obtain ⟨rfl, rfl⟩ := h12
    first | refine g_if_eqB (tgt := 38) hX dX4_noteMisses_15 (by decide) rfl (fun c15 => ?_) (fun c15 => ?_) | refine g_if_eq (tgt := 38) hX dX4_noteMisses_15 (by decide) rfl (fun c15 => ?_) (fun c15 => ?_)
    · skip
      refine g_aload_n (i := 0) hX dX4_noteMisses_38 rfl rfl rfl ?_
      refine g_getR hX fl_X4_15 rfl rfl dX4_noteMisses_39 rfl ?_
      refine g_iload_n (i := 1) hX dX4_noteMisses_42 rfl rfl rfl ?_
      refine g_dup2 hX dX4_noteMisses_43 rfl rfl rfl ?_
      refine g_ialdv (x := M 4 k) hX rfl (rfl) (by omega) rfl (e4) dX4_noteMisses_44 rfl ?_
      refine g_iconst hX dX4_noteMisses_45 ic_1 rfl ?_
      first | refine g_iaddN hX dX4_noteMisses_46 rfl ?_ | refine g_iadd hX dX4_noteMisses_46 rfl ?_
      refine g_iast hX rfl (rfl) (by omega) rfl dX4_noteMisses_47 rfl ?_
      first | refine g_iincN hX dX4_noteMisses_48 ic_1 rfl (Nat.le_of_ble_eq_true rfl) rfl ?_ | refine g_iinc hX dX4_noteMisses_48 ic_1 rfl rfl (Nat.le_of_ble_eq_true rfl) rfl ?_
      refine g_goto (n := 2) hX dX4_noteMisses_51 (by decide) ?_
      refine gGM ?_ ih
      first
        | (have hv : M 5 k = -1 := by simpa using (show decide (M 5 k ≠ -1) = false from c15)
           rw [if_pos hv] at s4 s6
           have u := upd_same e6
           funext b
           by_cases h4 : b = 4
           · subst h4; exact s4
           · by_cases h6 : b = 6
             · subst h6; exact u.symm.trans s6
             · simp [m_misses, gset, h4, h6])
        | (have hv : ¬ M 5 k = -1 := by simpa using (show decide (M 5 k ≠ -1) = true from c15)
           rw [if_neg hv] at s4 s6
           funext b
           by_cases h4 : b = 4
           · subst h4; exact s4
           · by_cases h6 : b = 6
             · subst h6; exact s6
             · simp [m_misses, gset, h4, h6])
    · skip
      refine g_aload_n (i := 0) hX dX4_noteMisses_18 rfl rfl rfl ?_
      refine g_getR hX fl_X4_15 rfl rfl dX4_noteMisses_19 rfl ?_
      refine g_iload_n (i := 1) hX dX4_noteMisses_22 rfl rfl rfl ?_
      refine g_iconst hX dX4_noteMisses_23 ic_0 rfl ?_
      refine g_iast hX rfl (rfl) (by omega) rfl dX4_noteMisses_24 rfl ?_
      refine g_aload_n (i := 0) hX dX4_noteMisses_25 rfl rfl rfl ?_
      refine g_getR hX fl_X4_21 rfl rfl dX4_noteMisses_26 rfl ?_
      refine g_iload_n (i := 1) hX dX4_noteMisses_29 rfl rfl rfl ?_
      refine g_dup2 hX dX4_noteMisses_30 rfl rfl rfl ?_
      refine g_ialdv (x := M 6 k) hX rfl (rfl) (by omega) rfl (e6) dX4_noteMisses_31 rfl ?_
      refine g_iconst hX dX4_noteMisses_32 ic_1 rfl ?_
      first | refine g_iaddN hX dX4_noteMisses_33 rfl ?_ | refine g_iadd hX dX4_noteMisses_33 rfl ?_
      refine g_iast hX rfl (rfl) (by omega) rfl dX4_noteMisses_34 rfl ?_
      refine g_goto (n := 48) hX dX4_noteMisses_35 (by decide) ?_
      first | refine g_iincN hX dX4_noteMisses_48 ic_1 rfl (Nat.le_of_ble_eq_true rfl) rfl ?_ | refine g_iinc hX dX4_noteMisses_48 ic_1 rfl rfl (Nat.le_of_ble_eq_true rfl) rfl ?_
      refine g_goto (n := 2) hX dX4_noteMisses_51 (by decide) ?_
      refine gGM ?_ ih
      first
        | (have hv : M 5 k = -1 := by simpa using (show decide (M 5 k ≠ -1) = false from c15)
           rw [if_pos hv] at s4 s6
           have u := upd_same e6
           funext b
           by_cases h4 : b = 4
           · subst h4; exact s4
           · by_cases h6 : b = 6
             · subst h6; exact u.symm.trans s6
             · simp [m_misses, gset, h4, h6])
        | (have hv : ¬ M 5 k = -1 := by simpa using (show decide (M 5 k ≠ -1) = true from c15)
           rw [if_neg hv] at s4 s6
           funext b
           by_cases h4 : b = 4
           · subst h4; exact s4
           · by_cases h6 : b = 6
             · subst h6; exact s6
             · simp [m_misses, gset, h4, h6])
end
section
/-! CommitteeBallots$Document: the document of the present state (cell 7) -/
theorem c_X2_slot (E : gE) (M : gM) (e p : Nat) (he : 1 ≤ e) : gMet E k_X2_slot [.int (nI e), .int (nI p)] M (gInt fun r M' => r = nI ((e - 1) * 20 + p) ∧ M' = M) := by
  refine gMet.of (by decide +kernel) rfl (Nat.le_of_ble_eq_true rfl) (fun X hX hR => ?_)
  refine g_iload_n (i := 0) hX dX2_slot_0 rfl rfl rfl ?_
  refine g_iconst hX dX2_slot_1 ic_1 rfl ?_
  refine g_isubN hX dX2_slot_2 (by omega) rfl ?_
  refine g_bipush hX dX2_slot_3 bc_20 rfl ?_
  first | refine g_imulN hX dX2_slot_5 rfl ?_ | refine g_imul hX dX2_slot_5 rfl ?_
  refine g_iload_n (i := 1) hX dX2_slot_6 rfl rfl rfl ?_
  first | refine g_iaddN hX dX2_slot_7 rfl ?_ | refine g_iadd hX dX2_slot_7 rfl ?_
  refine g_iret hX hR dX2_slot_8 ?_
  exact ⟨rfl, rfl⟩
theorem inI_t {c : Int32} {lo hi : Nat} (hl : lo < 2 ^ 31) (hh : hi < 2 ^ 31) (h : inI c (nI lo) (nI hi) = true) : ∃ j, lo ≤ j ∧ j ≤ hi ∧ c = nI j := by
  simp only [inI, decide_eq_true_eq] at h
  have h0 : ¬ c < 0 := Int32.not_lt.mpr (Int32.le_trans (nI_pos' hl) h.1)
  obtain ⟨j, hj, rfl⟩ := nI_of h0
  exact ⟨j, (nI_leI hl hj).mp h.1, (nI_leI hj hh).mp h.2, rfl⟩
theorem inI_nI {j lo hi : Nat} (hl : lo < 2 ^ 31) (hj : j < 2 ^ 31) (hh : hi < 2 ^ 31) : inI (nI j) (nI lo) (nI hi) = decide (lo ≤ j ∧ j ≤ hi) := by
  simp [inI, nI_leI hl hj, nI_leI hj hh]
theorem inI_1 {c lo hi : Int32} (h : ¬ c < lo) (h2 : ¬ hi < c) : inI c lo hi = true := by simp [inI, Int32.not_lt.mp h, Int32.not_lt.mp h2]
theorem inI_2 {c lo hi : Int32} (h : c < lo) : inI c lo hi = false := by simp [inI, Int32.not_le.mpr h]
theorem inI_3 {c lo hi : Int32} (h : hi < c) : inI c lo hi = false := by simp [inI, Int32.not_le.mpr h]
theorem c_X2_hasEdition (E : gE) (M : gM) (n : Nat) (c : Int32) (hn : M 7 7 = nI n) (hb : n ≤ 12) : gMet E k_X2_hasEdition [.ref 7, .int c] M (gInt fun r M' => r = gB (inI c (nI 1) (nI n)) ∧ M' = M) := by
  refine gMet.of (by decide +kernel) rfl (Nat.le_of_ble_eq_true rfl) (fun X hX hR => ?_)
  refine g_iload_n (i := 1) hX dX2_hasEdition_0 rfl rfl rfl ?_
  refine g_iconst hX dX2_hasEdition_1 ic_1 rfl ?_
  first | refine g_icmp_ltN (tgt := 17) hX dX2_hasEdition_2 (by decide) rfl (by omega) (by omega) (fun c2 => ?_) (fun c2 => ?_) | refine g_icmp_lt (tgt := 17) hX dX2_hasEdition_2 (by decide) rfl (fun c2 => ?_) (fun c2 => ?_)
  · skip
    refine g_iconst hX dX2_hasEdition_17 ic_0 rfl ?_
    refine g_zret hX hR (by first | exact Or.inl rfl | exact Or.inr rfl | exact gB_01 _) dX2_hasEdition_18 ?_
    exact ⟨by first | exact gB_1 (inI_1 (by assumption) (by assumption)) | exact gB_n (inI_2 (by assumption)) | exact gB_n (inI_3 (by assumption)), rfl⟩
  · skip
    refine g_iload_n (i := 1) hX dX2_hasEdition_5 rfl rfl rfl ?_
    refine g_aload_n (i := 0) hX dX2_hasEdition_6 rfl rfl rfl ?_
    refine g_getIv hX fl_X2_30 rfl rfl (hn) dX2_hasEdition_7 rfl ?_
    first | refine g_icmp_gtN (tgt := 17) hX dX2_hasEdition_10 (by decide) rfl (by omega) (by omega) (fun c10 => ?_) (fun c10 => ?_) | refine g_icmp_gt (tgt := 17) hX dX2_hasEdition_10 (by decide) rfl (fun c10 => ?_) (fun c10 => ?_)
    · skip
      refine g_iconst hX dX2_hasEdition_17 ic_0 rfl ?_
      refine g_zret hX hR (by first | exact Or.inl rfl | exact Or.inr rfl | exact gB_01 _) dX2_hasEdition_18 ?_
      exact ⟨by first | exact gB_1 (inI_1 (by assumption) (by assumption)) | exact gB_n (inI_2 (by assumption)) | exact gB_n (inI_3 (by assumption)), rfl⟩
    · skip
      refine g_iconst hX dX2_hasEdition_13 ic_1 rfl ?_
      refine g_goto (n := 18) hX dX2_hasEdition_14 (by decide) ?_
      refine g_zret hX hR (by first | exact Or.inl rfl | exact Or.inr rfl | exact gB_01 _) dX2_hasEdition_18 ?_
      exact ⟨by first | exact gB_1 (inI_1 (by assumption) (by assumption)) | exact gB_n (inI_2 (by assumption)) | exact gB_n (inI_3 (by assumption)), rfl⟩
theorem c_X2_find (E : gE) (M : gM) (n : Nat) (c : Int32) (hn : M 7 6 = nI n) (hb : n ≤ 20) : gMet E k_X2_find [.ref 7, .int c] M (gInt fun r M' => r = optI (-1) (fndTo n (fun k => decide (M 8 k = c))) ∧ M' = M) := by
  refine gMet.of (by decide +kernel) rfl (Nat.le_of_ble_eq_true rfl) (fun X hX hR => ?_)
  have loop := up_loop n (fun k => (∀ j, j < k → decide (M 8 j = c) = false) → gG X E M 2 [some (.ref 7), some (.int c), some (.int (nI k))] [] (gQ X E (gInt fun r M' => r = optI (-1) (fndTo n (fun k => decide (M 8 k = c))) ∧ M' = M))) ?_ ?_
  · skip
    refine g_iconst hX dX2_find_0 ic_0 rfl ?_
    refine g_istore_n (i := 2) hX dX2_find_1 rfl (Nat.le_of_ble_eq_true rfl) rfl ?_
    exact loop 0 (Nat.zero_le _) (fun j hj => absurd hj (by omega))
  · intro h
    refine g_iload_n (i := 2) hX dX2_find_2 rfl rfl rfl ?_
    refine g_aload_n (i := 0) hX dX2_find_3 rfl rfl rfl ?_
    refine g_getIv hX fl_X2_38 rfl rfl (hn) dX2_find_4 rfl ?_
    first | refine g_icmp_geN (tgt := 28) hX dX2_find_7 (by decide) rfl (by omega) (by omega) (fun c7 => ?_) (fun c7 => absurd c7 (by omega)) | refine g_icmp_ge (tgt := 28) hX dX2_find_7 (by decide) rfl (fun c7 => ?_) (fun c7 => absurd c7 (by omega))
    refine g_iconst hX dX2_find_28 ic_m1 rfl ?_
    refine g_iret hX hR dX2_find_29 ?_
    rw [fndTo_eqn h]; exact ⟨rfl, rfl⟩
  · intro k hk ih h
    refine g_iload_n (i := 2) hX dX2_find_2 rfl rfl rfl ?_
    refine g_aload_n (i := 0) hX dX2_find_3 rfl rfl rfl ?_
    refine g_getIv hX fl_X2_38 rfl rfl (hn) dX2_find_4 rfl ?_
    first | refine g_icmp_geN (tgt := 28) hX dX2_find_7 (by decide) rfl (by omega) (by omega) (fun c7 => absurd c7 (by omega)) (fun c7 => ?_) | refine g_icmp_ge (tgt := 28) hX dX2_find_7 (by decide) rfl (fun c7 => absurd c7 (by omega)) (fun c7 => ?_)
    refine g_aload_n (i := 0) hX dX2_find_10 rfl rfl rfl ?_
    refine g_getR hX fl_X2_9 rfl rfl dX2_find_11 rfl ?_
    refine g_iload_n (i := 2) hX dX2_find_14 rfl rfl rfl ?_
    refine g_iald hX rfl (rfl) (by omega) rfl dX2_find_15 rfl ?_
    refine g_iload_n (i := 1) hX dX2_find_16 rfl rfl rfl ?_
    refine g_icmp_ne (tgt := 22) hX dX2_find_17 (by decide) rfl (fun c17 => ?_) (fun c17 => ?_)
    · skip
      first | refine g_iincN hX dX2_find_22 ic_1 rfl (Nat.le_of_ble_eq_true rfl) rfl ?_ | refine g_iinc hX dX2_find_22 ic_1 rfl rfl (Nat.le_of_ble_eq_true rfl) rfl ?_
      refine g_goto (n := 2) hX dX2_find_25 (by decide) ?_
      refine ih (fun j hj => ?_)
      by_cases e : j = k
      · subst e; exact decide_eq_false c17
      · exact h j (by omega)
    · skip
      refine g_iload_n (i := 2) hX dX2_find_20 rfl rfl rfl ?_
      refine g_iret hX hR dX2_find_21 ?_
      rw [fndTo_eq hk (decide_eq_true c17) h]; exact ⟨rfl, rfl⟩
theorem c_X2_canGet (E : gE) (M : gM) (p : Nat) (v : Int32) (hp : p < 20) : gMet E k_X2_canGet [.ref 7, .int (nI p), .int v] M (gInt fun r M' => r = gB (decide (M 9 p = M 10 p) || decide (M 9 p = v)) ∧ M' = M) := by
  refine gMet.of (by decide +kernel) rfl (Nat.le_of_ble_eq_true rfl) (fun X hX hR => ?_)
  refine g_aload_n (i := 0) hX dX2_canGet_0 rfl rfl rfl ?_
  refine g_getR hX fl_X2_15 rfl rfl dX2_canGet_1 rfl ?_
  refine g_iload_n (i := 1) hX dX2_canGet_4 rfl rfl rfl ?_
  refine g_iald hX rfl (rfl) (by omega) rfl dX2_canGet_5 rfl ?_
  refine g_aload_n (i := 0) hX dX2_canGet_6 rfl rfl rfl ?_
  refine g_getR hX fl_X2_18 rfl rfl dX2_canGet_7 rfl ?_
  refine g_iload_n (i := 1) hX dX2_canGet_10 rfl rfl rfl ?_
  refine g_iald hX rfl (rfl) (by omega) rfl dX2_canGet_11 rfl ?_
  refine g_icmp_eq (tgt := 25) hX dX2_canGet_12 (by decide) rfl (fun c12 => ?_) (fun c12 => ?_)
  · skip
    refine g_iconst hX dX2_canGet_25 ic_1 rfl ?_
    refine g_goto (n := 30) hX dX2_canGet_26 (by decide) ?_
    refine g_zret hX hR (by first | exact Or.inl rfl | exact Or.inr rfl | exact gB_01 _) dX2_canGet_30 ?_
    refine ⟨?_, rfl⟩; first | exact gB_1 (by simp_all) | exact gB_n (by simp_all)
  · skip
    refine g_aload_n (i := 0) hX dX2_canGet_15 rfl rfl rfl ?_
    refine g_getR hX fl_X2_15 rfl rfl dX2_canGet_16 rfl ?_
    refine g_iload_n (i := 1) hX dX2_canGet_19 rfl rfl rfl ?_
    refine g_iald hX rfl (rfl) (by omega) rfl dX2_canGet_20 rfl ?_
    refine g_iload_n (i := 2) hX dX2_canGet_21 rfl rfl rfl ?_
    refine g_icmp_ne (tgt := 29) hX dX2_canGet_22 (by decide) rfl (fun c22 => ?_) (fun c22 => ?_)
    · skip
      refine g_iconst hX dX2_canGet_29 ic_0 rfl ?_
      refine g_zret hX hR (by first | exact Or.inl rfl | exact Or.inr rfl | exact gB_01 _) dX2_canGet_30 ?_
      refine ⟨?_, rfl⟩; first | exact gB_1 (by simp_all) | exact gB_n (by simp_all)
    · skip
      refine g_iconst hX dX2_canGet_25 ic_1 rfl ?_
      refine g_goto (n := 30) hX dX2_canGet_26 (by decide) ?_
      refine g_zret hX hR (by first | exact Or.inl rfl | exact Or.inr rfl | exact gB_01 _) dX2_canGet_30 ?_
      refine ⟨?_, rfl⟩; first | exact gB_1 (by simp_all) | exact gB_n (by simp_all)
theorem c_X2_isChanged (E : gE) (M : gM) (n e : Nat) (hn : M 7 6 = nI n) (hb : n ≤ 20) (he : M 7 7 = nI e) (h1 : 1 ≤ e) (h12 : e ≤ 12) : gMet E k_X2_isChanged [.ref 7] M (gInt fun r M' => r = gB (anyTo n (fun k => decide (M 9 k ≠ M 12 ((e - 1) * 20 + k)))) ∧ M' = M) := by
  refine gMet.of (by decide +kernel) rfl (Nat.le_of_ble_eq_true rfl) (fun X hX hR => ?_)
  have loop := up_loop n (fun k => (∀ j, j < k → decide (M 9 j ≠ M 12 ((e - 1) * 20 + j)) = false) → gG X E M 2 [some (.ref 7), some (.int (nI k))] [] (gQ X E (gInt fun r M' => r = gB (anyTo n (fun k => decide (M 9 k ≠ M 12 ((e - 1) * 20 + k)))) ∧ M' = M))) ?_ ?_
  · skip
    refine g_iconst hX dX2_isChanged_0 ic_0 rfl ?_
    refine g_istore_n (i := 1) hX dX2_isChanged_1 rfl (Nat.le_of_ble_eq_true rfl) rfl ?_
    exact loop 0 (Nat.zero_le _) (fun j hj => absurd hj (by omega))
  · intro h
    refine g_iload_n (i := 1) hX dX2_isChanged_2 rfl rfl rfl ?_
    refine g_aload_n (i := 0) hX dX2_isChanged_3 rfl rfl rfl ?_
    refine g_getIv hX fl_X2_38 rfl rfl (hn) dX2_isChanged_4 rfl ?_
    first | refine g_icmp_geN (tgt := 40) hX dX2_isChanged_7 (by decide) rfl (by omega) (by omega) (fun c7 => ?_) (fun c7 => absurd c7 (by omega)) | refine g_icmp_ge (tgt := 40) hX dX2_isChanged_7 (by decide) rfl (fun c7 => ?_) (fun c7 => absurd c7 (by omega))
    refine g_iconst hX dX2_isChanged_40 ic_0 rfl ?_
    refine g_zret hX hR (by first | exact Or.inl rfl | exact Or.inr rfl | exact gB_01 _) dX2_isChanged_41 ?_
    exact ⟨gB_n (anyTo_false.mpr h), rfl⟩
  · intro k hk ih h
    refine g_iload_n (i := 1) hX dX2_isChanged_2 rfl rfl rfl ?_
    refine g_aload_n (i := 0) hX dX2_isChanged_3 rfl rfl rfl ?_
    refine g_getIv hX fl_X2_38 rfl rfl (hn) dX2_isChanged_4 rfl ?_
    first | refine g_icmp_geN (tgt := 40) hX dX2_isChanged_7 (by decide) rfl (by omega) (by omega) (fun c7 => absurd c7 (by omega)) (fun c7 => ?_) | refine g_icmp_ge (tgt := 40) hX dX2_isChanged_7 (by decide) rfl (fun c7 => absurd c7 (by omega)) (fun c7 => ?_)
    refine g_aload_n (i := 0) hX dX2_isChanged_10 rfl rfl rfl ?_
    refine g_getR hX fl_X2_15 rfl rfl dX2_isChanged_11 rfl ?_
    refine g_iload_n (i := 1) hX dX2_isChanged_14 rfl rfl rfl ?_
    refine g_iald hX rfl (rfl) (by omega) rfl dX2_isChanged_15 rfl ?_
    refine g_aload_n (i := 0) hX dX2_isChanged_16 rfl rfl rfl ?_
    refine g_getR hX fl_X2_24 rfl rfl dX2_isChanged_17 rfl ?_
    refine g_aload_n (i := 0) hX dX2_isChanged_20 rfl rfl rfl ?_
    refine g_getIv hX fl_X2_30 rfl rfl (he) dX2_isChanged_21 rfl ?_
    refine g_iload_n (i := 1) hX dX2_isChanged_24 rfl rfl rfl ?_
    refine g_callSi hX (c_X2_slot E M e k h1) kf_X2_slot rfl wk_X2_41 rfl rfl rfl rfl dX2_isChanged_25 rfl (fun x25 M25 h25 => ?_)
    obtain ⟨rfl, hm⟩ := h25; have hm := hm.symm; subst hm
    refine g_iald hX rfl (rfl) (by omega) rfl dX2_isChanged_28 rfl ?_
    refine g_icmp_eq (tgt := 34) hX dX2_isChanged_29 (by decide) rfl (fun c29 => ?_) (fun c29 => ?_)
    · skip
      first | refine g_iincN hX dX2_isChanged_34 ic_1 rfl (Nat.le_of_ble_eq_true rfl) rfl ?_ | refine g_iinc hX dX2_isChanged_34 ic_1 rfl rfl (Nat.le_of_ble_eq_true rfl) rfl ?_
      refine g_goto (n := 2) hX dX2_isChanged_37 (by decide) ?_
      refine ih (fun j hj => ?_)
      by_cases ej : j = k
      · subst ej; exact decide_eq_false (fun q => q c29)
      · exact h j (by omega)
    · skip
      refine g_iconst hX dX2_isChanged_32 ic_1 rfl ?_
      refine g_zret hX hR (by first | exact Or.inl rfl | exact Or.inr rfl | exact gB_01 _) dX2_isChanged_33 ?_
      exact ⟨gB_1 (anyTo_true.mpr ⟨k, hk, decide_eq_true c29⟩), rfl⟩
/-- whether a clause differs in an edition from the one before -/
def difB (r : Nat → Int32) (e k : Nat) : Bool := decide (1 < e) && decide (r ((e - 1) * 20 + k) ≠ r ((e - 1 - 1) * 20 + k))
theorem c_X2_differs (E : gE) (M : gM) (e p : Nat) (h1 : 1 ≤ e) (h12 : e ≤ 12) (hp : p < 20) : gMet E k_X2_differs [.ref 7, .int (nI e), .int (nI p)] M (gInt fun r M' => r = gB (difB (M 12) e p) ∧ M' = M) := by
  refine gMet.of (by decide +kernel) rfl (Nat.le_of_ble_eq_true rfl) (fun X hX hR => ?_)
  refine g_iload_n (i := 1) hX dX2_differs_0 rfl rfl rfl ?_
  refine g_iconst hX dX2_differs_1 ic_1 rfl ?_
  first | refine g_icmp_leN (tgt := 34) hX dX2_differs_2 (by decide) rfl (by omega) (by omega) (fun c2 => ?_) (fun c2 => ?_) | refine g_icmp_le (tgt := 34) hX dX2_differs_2 (by decide) rfl (fun c2 => ?_) (fun c2 => ?_)
  · skip
    refine g_iconst hX dX2_differs_34 ic_0 rfl ?_
    refine g_zret hX hR (by first | exact Or.inl rfl | exact Or.inr rfl | exact gB_01 _) dX2_differs_35 ?_
    refine ⟨?_, rfl⟩; first | exact gB_1 (by simp_all [difB]) | exact gB_n (by simp_all [difB])
  · skip
    refine g_aload_n (i := 0) hX dX2_differs_5 rfl rfl rfl ?_
    refine g_getR hX fl_X2_24 rfl rfl dX2_differs_6 rfl ?_
    refine g_iload_n (i := 1) hX dX2_differs_9 rfl rfl rfl ?_
    refine g_iload_n (i := 2) hX dX2_differs_10 rfl rfl rfl ?_
    refine g_callSi hX (c_X2_slot E M e p h1) kf_X2_slot rfl wk_X2_41 rfl rfl rfl rfl dX2_differs_11 rfl (fun x11 M11 h11 => ?_)
    obtain ⟨rfl, hm⟩ := h11; have hm := hm.symm; subst hm
    refine g_iald hX rfl (rfl) (by omega) rfl dX2_differs_14 rfl ?_
    refine g_aload_n (i := 0) hX dX2_differs_15 rfl rfl rfl ?_
    refine g_getR hX fl_X2_24 rfl rfl dX2_differs_16 rfl ?_
    refine g_iload_n (i := 1) hX dX2_differs_19 rfl rfl rfl ?_
    refine g_iconst hX dX2_differs_20 ic_1 rfl ?_
    refine g_isubN hX dX2_differs_21 (by omega) rfl ?_
    refine g_iload_n (i := 2) hX dX2_differs_22 rfl rfl rfl ?_
    refine g_callSi hX (c_X2_slot E M (e - 1) p (by omega)) kf_X2_slot rfl wk_X2_41 rfl rfl rfl rfl dX2_differs_23 rfl (fun x23 M23 h23 => ?_)
    obtain ⟨rfl, hm⟩ := h23; have hm := hm.symm; subst hm
    refine g_iald hX rfl (rfl) (by omega) rfl dX2_differs_26 rfl ?_
    refine g_icmp_eq (tgt := 34) hX dX2_differs_27 (by decide) rfl (fun c27 => ?_) (fun c27 => ?_)
    · skip
      refine g_iconst hX dX2_differs_34 ic_0 rfl ?_
      refine g_zret hX hR (by first | exact Or.inl rfl | exact Or.inr rfl | exact gB_01 _) dX2_differs_35 ?_
      refine ⟨?_, rfl⟩; first | exact gB_1 (by simp_all [difB]) | exact gB_n (by simp_all [difB])
    · skip
      refine g_iconst hX dX2_differs_30 ic_1 rfl ?_
      refine g_goto (n := 35) hX dX2_differs_31 (by decide) ?_
      refine g_zret hX hR (by first | exact Or.inl rfl | exact Or.inr rfl | exact gB_01 _) dX2_differs_35 ?_
      refine ⟨?_, rfl⟩; first | exact gB_1 (by simp_all [difB]) | exact gB_n (by simp_all [difB])
theorem c_X2_changesOf (E : gE) (M : gM) (n e : Nat) (hn : M 7 6 = nI n) (hb : n ≤ 20) (h1 : 1 ≤ e) (h12 : e ≤ 12) : gMet E k_X2_changesOf [.ref 7, .int (nI e)] M (gInt fun r M' => r = nI (cntTo n (difB (M 12) e)) ∧ M' = M) := by
  refine gMet.of (by decide +kernel) rfl (Nat.le_of_ble_eq_true rfl) (fun X hX hR => ?_)
  have loop := up_loop n (fun k => gG X E M 4 [some (.ref 7), some (.int (nI e)), some (.int (nI (cntTo k (difB (M 12) e)))), some (.int (nI k))] [] (gQ X E (gInt fun r M' => r = nI (cntTo n (difB (M 12) e)) ∧ M' = M))) ?_ ?_
  · skip
    refine g_iconst hX dX2_changesOf_0 ic_0 rfl ?_
    refine g_istore_n (i := 2) hX dX2_changesOf_1 rfl (Nat.le_of_ble_eq_true rfl) rfl ?_
    refine g_iconst hX dX2_changesOf_2 ic_0 rfl ?_
    refine g_istore_n (i := 3) hX dX2_changesOf_3 rfl (Nat.le_of_ble_eq_true rfl) rfl ?_
    exact loop 0 (Nat.zero_le _)
  · skip
    refine g_iload_n (i := 3) hX dX2_changesOf_4 rfl rfl rfl ?_
    refine g_aload_n (i := 0) hX dX2_changesOf_5 rfl rfl rfl ?_
    refine g_getIv hX fl_X2_38 rfl rfl (hn) dX2_changesOf_6 rfl ?_
    first | refine g_icmp_geN (tgt := 30) hX dX2_changesOf_9 (by decide) rfl (by omega) (by omega) (fun c9 => ?_) (fun c9 => absurd c9 (by omega)) | refine g_icmp_ge (tgt := 30) hX dX2_changesOf_9 (by decide) rfl (fun c9 => ?_) (fun c9 => absurd c9 (by omega))
    refine g_iload_n (i := 2) hX dX2_changesOf_30 rfl rfl rfl ?_
    refine g_iret hX hR dX2_changesOf_31 ?_
    exact ⟨rfl, rfl⟩
  · intro k hk ih
    refine g_iload_n (i := 3) hX dX2_changesOf_4 rfl rfl rfl ?_
    refine g_aload_n (i := 0) hX dX2_changesOf_5 rfl rfl rfl ?_
    refine g_getIv hX fl_X2_38 rfl rfl (hn) dX2_changesOf_6 rfl ?_
    first | refine g_icmp_geN (tgt := 30) hX dX2_changesOf_9 (by decide) rfl (by omega) (by omega) (fun c9 => absurd c9 (by omega)) (fun c9 => ?_) | refine g_icmp_ge (tgt := 30) hX dX2_changesOf_9 (by decide) rfl (fun c9 => absurd c9 (by omega)) (fun c9 => ?_)
    refine g_aload_n (i := 0) hX dX2_changesOf_12 rfl rfl rfl ?_
    refine g_iload_n (i := 1) hX dX2_changesOf_13 rfl rfl rfl ?_
    refine g_iload_n (i := 3) hX dX2_changesOf_14 rfl rfl rfl ?_
    refine g_callVi hX (c_X2_differs E M e k h1 h12 (by omega)) kf_X2_differs rfl wk_X2_45 rfl rfl rfl rfl rfl dX2_changesOf_15 rfl (fun x15 M15 h15 => ?_)
    obtain ⟨rfl, hm⟩ := h15; have hm := hm.symm; subst hm
    first | refine g_if_eqB (tgt := 24) hX dX2_changesOf_18 (by decide) rfl (fun c18 => ?_) (fun c18 => ?_) | refine g_if_eq (tgt := 24) hX dX2_changesOf_18 (by decide) rfl (fun c18 => ?_) (fun c18 => ?_)
    · skip
      first | refine g_iincN hX dX2_changesOf_24 ic_1 rfl (Nat.le_of_ble_eq_true rfl) rfl ?_ | refine g_iinc hX dX2_changesOf_24 ic_1 rfl rfl (Nat.le_of_ble_eq_true rfl) rfl ?_
      refine g_goto (n := 4) hX dX2_changesOf_27 (by decide) ?_
      exact (by simpa [cntTo, c18] using ih)
    · skip
      first | refine g_iincN hX dX2_changesOf_21 ic_1 rfl (Nat.le_of_ble_eq_true rfl) rfl ?_ | refine g_iinc hX dX2_changesOf_21 ic_1 rfl rfl (Nat.le_of_ble_eq_true rfl) rfl ?_
      first | refine g_iincN hX dX2_changesOf_24 ic_1 rfl (Nat.le_of_ble_eq_true rfl) rfl ?_ | refine g_iinc hX dX2_changesOf_24 ic_1 rfl rfl (Nat.le_of_ble_eq_true rfl) rfl ?_
      refine g_goto (n := 4) hX dX2_changesOf_27 (by decide) ?_
      exact (by simpa [cntTo, c18] using ih)
/-- the place of the i-th with p -/
def nthTo (n : Nat) (p : Nat → Bool) (i : Nat) : Option Nat := fndTo n (fun k => p k && decide (cntTo k p = i))
theorem c_X2_placeOfChange (E : gE) (M : gM) (n e i : Nat) (hn : M 7 6 = nI n) (hb : n ≤ 20) (h1 : 1 ≤ e) (h12 : e ≤ 12) (hi : i < 2 ^ 31) : gMet E k_X2_placeOfChange [.ref 7, .int (nI e), .int (nI i)] M (gInt fun r M' => r = optI (-1) (nthTo n (difB (M 12) e) i) ∧ M' = M) := by
  refine gMet.of (by decide +kernel) rfl (Nat.le_of_ble_eq_true rfl) (fun X hX hR => ?_)
  have loop := up_loop n (fun k => (∀ j, j < k → (difB (M 12) e j && decide (cntTo j (difB (M 12) e) = i)) = false) → gG X E M 5 [some (.ref 7), some (.int (nI e)), some (.int (nI i)), some (.int (nI (cntTo k (difB (M 12) e)))), some (.int (nI k))] [] (gQ X E (gInt fun r M' => r = optI (-1) (nthTo n (difB (M 12) e) i) ∧ M' = M))) ?_ ?_
  · skip
    refine g_iconst hX dX2_placeOfChange_0 ic_0 rfl ?_
    refine g_istore_n (i := 3) hX dX2_placeOfChange_1 rfl (Nat.le_of_ble_eq_true rfl) rfl ?_
    refine g_iconst hX dX2_placeOfChange_2 ic_0 rfl ?_
    refine g_istore hX dX2_placeOfChange_3 (Nat.le_of_ble_eq_true rfl) rfl ?_
    exact loop 0 (Nat.zero_le _) (fun j hj => absurd hj (by omega))
  · intro h
    refine g_iload hX dX2_placeOfChange_5 rfl rfl ?_
    refine g_aload_n (i := 0) hX dX2_placeOfChange_7 rfl rfl rfl ?_
    refine g_getIv hX fl_X2_38 rfl rfl (hn) dX2_placeOfChange_8 rfl ?_
    first | refine g_icmp_geN (tgt := 41) hX dX2_placeOfChange_11 (by decide) rfl (by omega) (by omega) (fun c11 => ?_) (fun c11 => absurd c11 (by omega)) | refine g_icmp_ge (tgt := 41) hX dX2_placeOfChange_11 (by decide) rfl (fun c11 => ?_) (fun c11 => absurd c11 (by omega))
    refine g_iconst hX dX2_placeOfChange_41 ic_m1 rfl ?_
    refine g_iret hX hR dX2_placeOfChange_42 ?_
    rw [nthTo, fndTo_eqn h]; exact ⟨rfl, rfl⟩
  · intro k hk ih h
    have hc := cntTo_le k (difB (M 12) e)
    have step : (difB (M 12) e k && decide (cntTo k (difB (M 12) e) = i)) = false → ∀ j, j < k + 1 → (difB (M 12) e j && decide (cntTo j (difB (M 12) e) = i)) = false := by
      intro hk2 j hj
      by_cases ej : j = k
      · subst ej; exact hk2
      · exact h j (by omega)
    refine g_iload hX dX2_placeOfChange_5 rfl rfl ?_
    refine g_aload_n (i := 0) hX dX2_placeOfChange_7 rfl rfl rfl ?_
    refine g_getIv hX fl_X2_38 rfl rfl (hn) dX2_placeOfChange_8 rfl ?_
    first | refine g_icmp_geN (tgt := 41) hX dX2_placeOfChange_11 (by decide) rfl (by omega) (by omega) (fun c11 => absurd c11 (by omega)) (fun c11 => ?_) | refine g_icmp_ge (tgt := 41) hX dX2_placeOfChange_11 (by decide) rfl (fun c11 => absurd c11 (by omega)) (fun c11 => ?_)
    refine g_aload_n (i := 0) hX dX2_placeOfChange_14 rfl rfl rfl ?_
    refine g_iload_n (i := 1) hX dX2_placeOfChange_15 rfl rfl rfl ?_
    refine g_iload hX dX2_placeOfChange_16 rfl rfl ?_
    refine g_callVi hX (c_X2_differs E M e k h1 h12 (by omega)) kf_X2_differs rfl wk_X2_45 rfl rfl rfl rfl rfl dX2_placeOfChange_18 rfl (fun x18 M18 h18 => ?_)
    obtain ⟨rfl, hm⟩ := h18; have hm := hm.symm; subst hm
    first | refine g_if_eqB (tgt := 35) hX dX2_placeOfChange_21 (by decide) rfl (fun c21 => ?_) (fun c21 => ?_) | refine g_if_eq (tgt := 35) hX dX2_placeOfChange_21 (by decide) rfl (fun c21 => ?_) (fun c21 => ?_)
    · skip
      first | refine g_iincN hX dX2_placeOfChange_35 ic_1 rfl (Nat.le_of_ble_eq_true rfl) rfl ?_ | refine g_iinc hX dX2_placeOfChange_35 ic_1 rfl rfl (Nat.le_of_ble_eq_true rfl) rfl ?_
      refine g_goto (n := 5) hX dX2_placeOfChange_38 (by decide) ?_
      exact (by simpa [cntTo, c21] using ih (step (by first | (simp [c21]; done) | (simp [c26]; done))))
    · skip
      refine g_iload_n (i := 3) hX dX2_placeOfChange_24 rfl rfl rfl ?_
      refine g_iload_n (i := 2) hX dX2_placeOfChange_25 rfl rfl rfl ?_
      first | refine g_icmp_neN (tgt := 32) hX dX2_placeOfChange_26 (by decide) rfl (by omega) (by omega) (fun c26 => ?_) (fun c26 => ?_) | refine g_icmp_ne (tgt := 32) hX dX2_placeOfChange_26 (by decide) rfl (fun c26 => ?_) (fun c26 => ?_)
      · skip
        first | refine g_iincN hX dX2_placeOfChange_32 ic_1 rfl (Nat.le_of_ble_eq_true rfl) rfl ?_ | refine g_iinc hX dX2_placeOfChange_32 ic_1 rfl rfl (Nat.le_of_ble_eq_true rfl) rfl ?_
        first | refine g_iincN hX dX2_placeOfChange_35 ic_1 rfl (Nat.le_of_ble_eq_true rfl) rfl ?_ | refine g_iinc hX dX2_placeOfChange_35 ic_1 rfl rfl (Nat.le_of_ble_eq_true rfl) rfl ?_
        refine g_goto (n := 5) hX dX2_placeOfChange_38 (by decide) ?_
        exact (by simpa [cntTo, c21] using ih (step (by first | (simp [c21]; done) | (simp [c26]; done))))
      · skip
        refine g_iload hX dX2_placeOfChange_29 rfl rfl ?_
        refine g_iret hX hR dX2_placeOfChange_31 ?_
        rw [nthTo, fndTo_eq hk (by simp [c21, c26]) h]; exact ⟨rfl, rfl⟩
def m_insert (M : gM) (p n : Nat) (c v : Int32) : gM := gset (gset (gset (gset M 8 (insAt p n c (M 8))) 9 (insAt p n v (M 9))) 12 (insAt p n v (M 12))) 7 (upd (M 7) 6 (nI (n + 1)))
def insP (r : Nat → Int32) (p n : Nat) (c : Int32) : Prop := p ≤ n ∧ (∀ j, p ≤ j → j < n → c < r j) ∧ (p = 0 ∨ ¬ c < r (p - 1))
def m_shf (M : gM) (p n : Nat) : gM := gset (gset (gset M 8 (shf p n (M 8))) 9 (shf p n (M 9))) 12 (shf p n (M 12))
theorem c_X2_insert (E : gE) (M : gM) (n : Nat) (c v : Int32) (hn : M 7 6 = nI n) (hb : n < 20) : gMet E k_X2_insert [.ref 7, .int c, .int v] M (gVoid fun M' => ∃ p, insP (M 8) p n c ∧ M' = m_insert M p n c v) := by
  refine gMet.of (by decide +kernel) rfl (Nat.le_of_ble_eq_true rfl) (fun X hX hR => ?_)
  have tail : ∀ p, insP (M 8) p n c → gG X E (m_shf M p n) 87 [some (.ref 7), some (.int c), some (.int v), some (.int (nI p))] [] (gQ X E (gVoid fun M' => ∃ p, insP (M 8) p n c ∧ M' = m_insert M p n c v)) := by
    intro p hp
    have hp1 := hp.1
    refine g_aload_n (i := 0) hX dX2_insert_87 rfl rfl rfl ?_
    refine g_getR hX fl_X2_9 rfl rfl dX2_insert_88 rfl ?_
    refine g_iload_n (i := 3) hX dX2_insert_91 rfl rfl rfl ?_
    refine g_iload_n (i := 1) hX dX2_insert_92 rfl rfl rfl ?_
    refine g_iast hX rfl (rfl) (by omega) rfl dX2_insert_93 rfl ?_
    refine g_aload_n (i := 0) hX dX2_insert_94 rfl rfl rfl ?_
    refine g_getR hX fl_X2_15 rfl rfl dX2_insert_95 rfl ?_
    refine g_iload_n (i := 3) hX dX2_insert_98 rfl rfl rfl ?_
    refine g_iload_n (i := 2) hX dX2_insert_99 rfl rfl rfl ?_
    refine g_iast hX rfl (rfl) (by omega) rfl dX2_insert_100 rfl ?_
    refine g_aload_n (i := 0) hX dX2_insert_101 rfl rfl rfl ?_
    refine g_getR hX fl_X2_24 rfl rfl dX2_insert_102 rfl ?_
    refine g_iconst hX dX2_insert_105 ic_1 rfl ?_
    refine g_iload_n (i := 3) hX dX2_insert_106 rfl rfl rfl ?_
    refine g_callSi hX (c_X2_slot E _ 1 p (by omega)) kf_X2_slot rfl wk_X2_41 rfl rfl rfl rfl dX2_insert_107 rfl (fun x107 M107 h107 => ?_)
    obtain ⟨rfl, hm⟩ := h107; have hm := hm.symm; subst hm
    refine g_iload_n (i := 2) hX dX2_insert_110 rfl rfl rfl ?_
    refine g_iast hX rfl ((by simp : _ = nI p)) (by omega) rfl dX2_insert_111 rfl ?_
    refine g_aload_n (i := 0) hX dX2_insert_112 rfl rfl rfl ?_
    refine g_dup hX dX2_insert_113 rfl rfl ?_
    refine g_getIv (x := nI n) hX fl_X2_38 rfl rfl (hn) dX2_insert_114 rfl ?_
    refine g_iconst hX dX2_insert_117 ic_1 rfl ?_
    first | refine g_iaddN hX dX2_insert_118 rfl ?_ | refine g_iadd hX dX2_insert_118 rfl ?_
    refine g_putI hX fp_X2_38 rfl rfl dX2_insert_119 rfl ?_
    refine g_vret hX hR dX2_insert_122 ?_
    refine ⟨p, hp, ?_⟩
    funext b
    by_cases h8 : b = 8
    · subst h8; rfl
    · by_cases h9 : b = 9
      · subst h9; rfl
      · by_cases h12 : b = 12
        · subst h12; rfl
        · by_cases h7 : b = 7
          · subst h7; rfl
          · simp [m_insert, m_shf, gset, h7, h8, h9, h12]
  have loop : ∀ p, p ≤ n → (∀ j, p ≤ j → j < n → c < M 8 j) → gG X E (m_shf M p n) 15 [some (.ref 7), some (.int c), some (.int v), some (.int (nI p))] [] (gQ X E (gVoid fun M' => ∃ p, insP (M 8) p n c ∧ M' = m_insert M p n c v)) := by
    intro p
    induction p with
    | zero =>
      intro hp hj
      refine g_iload_n (i := 3) hX dX2_insert_15 rfl rfl rfl ?_
      refine g_if_le (tgt := 87) hX dX2_insert_16 (by decide) rfl (fun c16 => ?_) (fun c16 => absurd c16 (by decide))
      exact tail 0 ⟨hp, hj, Or.inl rfl⟩
    | succ p ih =>
      intro hp hj
      have s8 := shf_step (M 8) hp
      have s9 := shf_step (M 9) hp
      have s12 := shf_step (M 12) hp
      have r8 : shf (p + 1) n (M 8) p = M 8 p := shf_lo (by omega)
      refine g_iload_n (i := 3) hX dX2_insert_15 rfl rfl rfl ?_
      refine g_if_le (tgt := 87) hX dX2_insert_16 (by decide) rfl (fun c16 => absurd c16 (nI_nle (by omega) (by omega))) (fun c16 => ?_)
      refine g_aload_n (i := 0) hX dX2_insert_19 rfl rfl rfl ?_
      refine g_getR hX fl_X2_9 rfl rfl dX2_insert_20 rfl ?_
      refine g_iload_n (i := 3) hX dX2_insert_23 rfl rfl rfl ?_
      refine g_iconst hX dX2_insert_24 ic_1 rfl ?_
      refine g_isubN hX dX2_insert_25 (by omega) rfl ?_
      refine g_ialdv (x := M 8 p) hX rfl ((rfl : _ = nI p)) (by omega) rfl (r8) dX2_insert_26 rfl ?_
      refine g_iload_n (i := 1) hX dX2_insert_27 rfl rfl rfl ?_
      refine g_icmp_le (tgt := 87) hX dX2_insert_28 (by decide) rfl (fun c28 => ?_) (fun c28 => ?_)
      · skip
        exact tail (p + 1) ⟨hp, hj, Or.inr (fun q => Int32.lt_irrefl (Int32.lt_of_lt_of_le q c28))⟩
      · skip
        refine g_aload_n (i := 0) hX dX2_insert_31 rfl rfl rfl ?_
        refine g_getR hX fl_X2_9 rfl rfl dX2_insert_32 rfl ?_
        refine g_iload_n (i := 3) hX dX2_insert_35 rfl rfl rfl ?_
        refine g_aload_n (i := 0) hX dX2_insert_36 rfl rfl rfl ?_
        refine g_getR hX fl_X2_9 rfl rfl dX2_insert_37 rfl ?_
        refine g_iload_n (i := 3) hX dX2_insert_40 rfl rfl rfl ?_
        refine g_iconst hX dX2_insert_41 ic_1 rfl ?_
        refine g_isubN hX dX2_insert_42 (by omega) rfl ?_
        refine g_iald hX rfl ((rfl : _ = nI p)) (by omega) rfl dX2_insert_43 rfl ?_
        refine g_iast hX rfl (rfl) (by omega) rfl dX2_insert_44 rfl ?_
        refine g_aload_n (i := 0) hX dX2_insert_45 rfl rfl rfl ?_
        refine g_getR hX fl_X2_15 rfl rfl dX2_insert_46 rfl ?_
        refine g_iload_n (i := 3) hX dX2_insert_49 rfl rfl rfl ?_
        refine g_aload_n (i := 0) hX dX2_insert_50 rfl rfl rfl ?_
        refine g_getR hX fl_X2_15 rfl rfl dX2_insert_51 rfl ?_
        refine g_iload_n (i := 3) hX dX2_insert_54 rfl rfl rfl ?_
        refine g_iconst hX dX2_insert_55 ic_1 rfl ?_
        refine g_isubN hX dX2_insert_56 (by omega) rfl ?_
        refine g_iald hX rfl ((rfl : _ = nI p)) (by omega) rfl dX2_insert_57 rfl ?_
        refine g_iast hX rfl (rfl) (by omega) rfl dX2_insert_58 rfl ?_
        refine g_aload_n (i := 0) hX dX2_insert_59 rfl rfl rfl ?_
        refine g_getR hX fl_X2_24 rfl rfl dX2_insert_60 rfl ?_
        refine g_iconst hX dX2_insert_63 ic_1 rfl ?_
        refine g_iload_n (i := 3) hX dX2_insert_64 rfl rfl rfl ?_
        refine g_callSi hX (c_X2_slot E _ 1 (p + 1) (by omega)) kf_X2_slot rfl wk_X2_41 rfl rfl rfl rfl dX2_insert_65 rfl (fun x65 M65 h65 => ?_)
        obtain ⟨rfl, hm⟩ := h65; have hm := hm.symm; subst hm
        refine g_aload_n (i := 0) hX dX2_insert_68 rfl rfl rfl ?_
        refine g_getR hX fl_X2_24 rfl rfl dX2_insert_69 rfl ?_
        refine g_iconst hX dX2_insert_72 ic_1 rfl ?_
        refine g_iload_n (i := 3) hX dX2_insert_73 rfl rfl rfl ?_
        refine g_iconst hX dX2_insert_74 ic_1 rfl ?_
        refine g_isubN hX dX2_insert_75 (by omega) rfl ?_
        refine g_callSi hX (c_X2_slot E _ 1 p (by omega)) kf_X2_slot rfl wk_X2_41 rfl rfl rfl rfl dX2_insert_76 rfl (fun x76 M76 h76 => ?_)
        obtain ⟨rfl, hm⟩ := h76; have hm := hm.symm; subst hm
        refine g_iald hX rfl ((by simp : _ = nI p)) (by omega) rfl dX2_insert_79 rfl ?_
        refine g_iast hX rfl ((by simp : _ = nI (p + 1))) (by omega) rfl dX2_insert_80 rfl ?_
        refine g_iinc hX dX2_insert_81 ic_m1 rfl (pk_m1 p) (Nat.le_of_ble_eq_true rfl) rfl ?_
        refine g_goto (n := 15) hX dX2_insert_84 (by decide) ?_
        refine gGM ?_ (ih (by omega) (fun j h1 h2 => ?_))
        · funext b
          by_cases h8 : b = 8
          · subst h8; exact s8
          · by_cases h9 : b = 9
            · subst h9; exact s9
            · by_cases h12 : b = 12
              · subst h12; exact s12
              · simp [m_shf, gset, h8, h9, h12]
        · by_cases ej : j = p
          · subst ej; exact Int32.not_le.mp c28
          · exact hj j (by omega) h2
  refine g_aload_n (i := 0) hX dX2_insert_0 rfl rfl rfl ?_
  refine g_getIv hX fl_X2_38 rfl rfl (hn) dX2_insert_1 rfl ?_
  refine g_bipush hX dX2_insert_4 bc_20 rfl ?_
  first | refine g_icmp_ltN (tgt := 10) hX dX2_insert_6 (by decide) rfl (by omega) (by omega) (fun c6 => ?_) (fun c6 => absurd c6 (by omega)) | refine g_icmp_lt (tgt := 10) hX dX2_insert_6 (by decide) rfl (fun c6 => ?_) (fun c6 => absurd c6 (by omega))
  refine g_aload_n (i := 0) hX dX2_insert_10 rfl rfl rfl ?_
  refine g_getIv hX fl_X2_38 rfl rfl (hn) dX2_insert_11 rfl ?_
  refine g_istore_n (i := 3) hX dX2_insert_14 rfl (Nat.le_of_ble_eq_true rfl) rfl ?_
  exact gGM (by simp only [m_shf, shf_0, gset_self]) (loop n (Nat.le_refl n) (fun j h1 h2 => absurd h2 (by omega)))
end
section
/-! CommitteeBallots$Comments: the comments of the present state (cell 16) -/
theorem c_X1_has (E : gE) (M : gM) (n : Nat) (c : Int32) (hn : M 16 8 = nI n) (hb : n ≤ 30) : gMet E k_X1_has [.ref 16, .int c] M (gInt fun r M' => r = gB (inR c n) ∧ M' = M) := by
  refine gMet.of (by decide +kernel) rfl (Nat.le_of_ble_eq_true rfl) (fun X hX hR => ?_)
  refine g_iload_n (i := 1) hX dX1_has_0 rfl rfl rfl ?_
  refine g_if_lt (tgt := 16) hX dX1_has_1 (by decide) rfl (fun c1 => ?_) (fun c1 => ?_)
  · skip
    refine g_iconst hX dX1_has_16 ic_0 rfl ?_
    refine g_zret hX hR (by first | exact Or.inl rfl | exact Or.inr rfl | exact gB_01 _) dX1_has_17 ?_
    exact ⟨by first | exact gB_1 (inR_ok (by assumption) (by assumption)) | exact gB_n (inR_neg (by assumption)) | exact gB_n (inR_ge (by assumption)), rfl⟩
  · skip
    refine g_iload_n (i := 1) hX dX1_has_4 rfl rfl rfl ?_
    refine g_aload_n (i := 0) hX dX1_has_5 rfl rfl rfl ?_
    refine g_getIv hX fl_X1_40 rfl rfl (hn) dX1_has_6 rfl ?_
    first | refine g_icmp_geN (tgt := 16) hX dX1_has_9 (by decide) rfl (by omega) (by omega) (fun c9 => ?_) (fun c9 => ?_) | refine g_icmp_ge (tgt := 16) hX dX1_has_9 (by decide) rfl (fun c9 => ?_) (fun c9 => ?_)
    · skip
      refine g_iconst hX dX1_has_16 ic_0 rfl ?_
      refine g_zret hX hR (by first | exact Or.inl rfl | exact Or.inr rfl | exact gB_01 _) dX1_has_17 ?_
      exact ⟨by first | exact gB_1 (inR_ok (by assumption) (by assumption)) | exact gB_n (inR_neg (by assumption)) | exact gB_n (inR_ge (by assumption)), rfl⟩
    · skip
      refine g_iconst hX dX1_has_12 ic_1 rfl ?_
      refine g_goto (n := 17) hX dX1_has_13 (by decide) ?_
      refine g_zret hX hR (by first | exact Or.inl rfl | exact Or.inr rfl | exact gB_01 _) dX1_has_17 ?_
      exact ⟨by first | exact gB_1 (inR_ok (by assumption) (by assumption)) | exact gB_n (inR_neg (by assumption)) | exact gB_n (inR_ge (by assumption)), rfl⟩
theorem c_X1_isResolved (E : gE) (M : gM) (k : Nat) (hk : k < 30) : gMet E k_X1_isResolved [.ref 16, .int (nI k)] M (gInt fun r M' => r = gB (decide (¬ M 21 k < 2)) ∧ M' = M) := by
  refine gMet.of (by decide +kernel) rfl (Nat.le_of_ble_eq_true rfl) (fun X hX hR => ?_)
  refine g_aload_n (i := 0) hX dX1_isResolved_0 rfl rfl rfl ?_
  refine g_getR hX fl_X1_24 rfl rfl dX1_isResolved_1 rfl ?_
  refine g_iload_n (i := 1) hX dX1_isResolved_4 rfl rfl rfl ?_
  refine g_iald hX rfl (rfl) (by omega) rfl dX1_isResolved_5 rfl ?_
  refine g_iconst hX dX1_isResolved_6 ic_2 rfl ?_
  refine g_icmp_lt (tgt := 14) hX dX1_isResolved_7 (by decide) rfl (fun c7 => ?_) (fun c7 => ?_)
  · skip
    refine g_iconst hX dX1_isResolved_14 ic_0 rfl ?_
    refine g_zret hX hR (by first | exact Or.inl rfl | exact Or.inr rfl | exact gB_01 _) dX1_isResolved_15 ?_
    refine ⟨?_, rfl⟩; first | exact gB_1 (decide_eq_true c7) | exact gB_n (decide_eq_false (fun q => q c7))
  · skip
    refine g_iconst hX dX1_isResolved_10 ic_1 rfl ?_
    refine g_goto (n := 15) hX dX1_isResolved_11 (by decide) ?_
    refine g_zret hX hR (by first | exact Or.inl rfl | exact Or.inr rfl | exact gB_01 _) dX1_isResolved_15 ?_
    refine ⟨?_, rfl⟩; first | exact gB_1 (decide_eq_true c7) | exact gB_n (decide_eq_false (fun q => q c7))
def gaveB (s : Int32) : Bool := decide (s = 2) || decide (s = 3)
theorem c_X1_gaveValue (E : gE) (M : gM) (k : Nat) (hk : k < 30) : gMet E k_X1_gaveValue [.ref 16, .int (nI k)] M (gInt fun r M' => r = gB (gaveB (M 21 k)) ∧ M' = M) := by
  refine gMet.of (by decide +kernel) rfl (Nat.le_of_ble_eq_true rfl) (fun X hX hR => ?_)
  have e2 : nI 2 = 2 := rfl
  have e3 : nI 3 = 3 := rfl
  refine g_aload_n (i := 0) hX dX1_gaveValue_0 rfl rfl rfl ?_
  refine g_getR hX fl_X1_24 rfl rfl dX1_gaveValue_1 rfl ?_
  refine g_iload_n (i := 1) hX dX1_gaveValue_4 rfl rfl rfl ?_
  refine g_iald hX rfl (rfl) (by omega) rfl dX1_gaveValue_5 rfl ?_
  refine g_iconst hX dX1_gaveValue_6 ic_2 rfl ?_
  refine g_icmp_eq (tgt := 20) hX dX1_gaveValue_7 (by decide) rfl (fun c7 => ?_) (fun c7 => ?_)
  · skip
    refine g_iconst hX dX1_gaveValue_20 ic_1 rfl ?_
    refine g_goto (n := 25) hX dX1_gaveValue_21 (by decide) ?_
    refine g_zret hX hR (by first | exact Or.inl rfl | exact Or.inr rfl | exact gB_01 _) dX1_gaveValue_25 ?_
    refine ⟨?_, rfl⟩; first | exact gB_1 (by simp_all [gaveB]) | exact gB_n (by simp_all [gaveB])
  · skip
    refine g_aload_n (i := 0) hX dX1_gaveValue_10 rfl rfl rfl ?_
    refine g_getR hX fl_X1_24 rfl rfl dX1_gaveValue_11 rfl ?_
    refine g_iload_n (i := 1) hX dX1_gaveValue_14 rfl rfl rfl ?_
    refine g_iald hX rfl (rfl) (by omega) rfl dX1_gaveValue_15 rfl ?_
    refine g_iconst hX dX1_gaveValue_16 ic_3 rfl ?_
    refine g_icmp_ne (tgt := 24) hX dX1_gaveValue_17 (by decide) rfl (fun c17 => ?_) (fun c17 => ?_)
    · skip
      refine g_iconst hX dX1_gaveValue_24 ic_0 rfl ?_
      refine g_zret hX hR (by first | exact Or.inl rfl | exact Or.inr rfl | exact gB_01 _) dX1_gaveValue_25 ?_
      refine ⟨?_, rfl⟩; first | exact gB_1 (by simp_all [gaveB]) | exact gB_n (by simp_all [gaveB])
    · skip
      refine g_iconst hX dX1_gaveValue_20 ic_1 rfl ?_
      refine g_goto (n := 25) hX dX1_gaveValue_21 (by decide) ?_
      refine g_zret hX hR (by first | exact Or.inl rfl | exact Or.inr rfl | exact gB_01 _) dX1_gaveValue_25 ?_
      refine ⟨?_, rfl⟩; first | exact gB_1 (by simp_all [gaveB]) | exact gB_n (by simp_all [gaveB])
def m_comment (M : gM) (n : Nat) (m p k v : Int32) : gM := gset (gset (gset (gset (gset (gset M 17 (upd (M 17) n m)) 18 (upd (M 18) n p)) 19 (upd (M 19) n k)) 20 (upd (M 20) n v)) 21 (upd (M 21) n 0)) 16 (upd (M 16) 8 (nI (n + 1)))
theorem c_X1_append (E : gE) (M : gM) (n : Nat) (m p k v : Int32) (hn : M 16 8 = nI n) (hb : n < 30) : gMet E k_X1_append [.ref 16, .int m, .int p, .int k, .int v] M (gInt fun r M' => r = nI n ∧ M' = m_comment M n m p k v) := by
  refine gMet.of (by decide +kernel) rfl (Nat.le_of_ble_eq_true rfl) (fun X hX hR => ?_)
  refine g_aload_n (i := 0) hX dX1_append_0 rfl rfl rfl ?_
  refine g_getIv hX fl_X1_40 rfl rfl (hn) dX1_append_1 rfl ?_
  refine g_bipush hX dX1_append_4 bc_30 rfl ?_
  first | refine g_icmp_ltN (tgt := 11) hX dX1_append_6 (by decide) rfl (by omega) (by omega) (fun c6 => ?_) (fun c6 => absurd c6 (by omega)) | refine g_icmp_lt (tgt := 11) hX dX1_append_6 (by decide) rfl (fun c6 => ?_) (fun c6 => absurd c6 (by omega))
  refine g_aload_n (i := 0) hX dX1_append_11 rfl rfl rfl ?_
  refine g_getR hX fl_X1_9 rfl rfl dX1_append_12 rfl ?_
  refine g_aload_n (i := 0) hX dX1_append_15 rfl rfl rfl ?_
  refine g_getIv hX fl_X1_40 rfl rfl (hn) dX1_append_16 rfl ?_
  refine g_iload_n (i := 1) hX dX1_append_19 rfl rfl rfl ?_
  refine g_iast hX rfl (rfl) (by omega) rfl dX1_append_20 rfl ?_
  refine g_aload_n (i := 0) hX dX1_append_21 rfl rfl rfl ?_
  refine g_getR hX fl_X1_15 rfl rfl dX1_append_22 rfl ?_
  refine g_aload_n (i := 0) hX dX1_append_25 rfl rfl rfl ?_
  refine g_getIv hX fl_X1_40 rfl rfl (hn) dX1_append_26 rfl ?_
  refine g_iload_n (i := 2) hX dX1_append_29 rfl rfl rfl ?_
  refine g_iast hX rfl (rfl) (by omega) rfl dX1_append_30 rfl ?_
  refine g_aload_n (i := 0) hX dX1_append_31 rfl rfl rfl ?_
  refine g_getR hX fl_X1_18 rfl rfl dX1_append_32 rfl ?_
  refine g_aload_n (i := 0) hX dX1_append_35 rfl rfl rfl ?_
  refine g_getIv hX fl_X1_40 rfl rfl (hn) dX1_append_36 rfl ?_
  refine g_iload_n (i := 3) hX dX1_append_39 rfl rfl rfl ?_
  refine g_iast hX rfl (rfl) (by omega) rfl dX1_append_40 rfl ?_
  refine g_aload_n (i := 0) hX dX1_append_41 rfl rfl rfl ?_
  refine g_getR hX fl_X1_21 rfl rfl dX1_append_42 rfl ?_
  refine g_aload_n (i := 0) hX dX1_append_45 rfl rfl rfl ?_
  refine g_getIv hX fl_X1_40 rfl rfl (hn) dX1_append_46 rfl ?_
  refine g_iload hX dX1_append_49 rfl rfl ?_
  refine g_iast hX rfl (rfl) (by omega) rfl dX1_append_51 rfl ?_
  refine g_aload_n (i := 0) hX dX1_append_52 rfl rfl rfl ?_
  refine g_getR hX fl_X1_24 rfl rfl dX1_append_53 rfl ?_
  refine g_aload_n (i := 0) hX dX1_append_56 rfl rfl rfl ?_
  refine g_getIv hX fl_X1_40 rfl rfl (hn) dX1_append_57 rfl ?_
  refine g_iconst hX dX1_append_60 ic_0 rfl ?_
  refine g_iast hX rfl (rfl) (by omega) rfl dX1_append_61 rfl ?_
  refine g_aload_n (i := 0) hX dX1_append_62 rfl rfl rfl ?_
  refine g_dup hX dX1_append_63 rfl rfl ?_
  refine g_getIv hX fl_X1_40 rfl rfl (hn) dX1_append_64 rfl ?_
  refine g_iconst hX dX1_append_67 ic_1 rfl ?_
  first | refine g_iaddN hX dX1_append_68 rfl ?_ | refine g_iadd hX dX1_append_68 rfl ?_
  refine g_putI hX fp_X1_40 rfl rfl dX1_append_69 rfl ?_
  refine g_aload_n (i := 0) hX dX1_append_72 rfl rfl rfl ?_
  refine g_getIv (x := nI (n + 1)) hX fl_X1_40 rfl rfl (rfl) dX1_append_73 rfl ?_
  refine g_iconst hX dX1_append_76 ic_1 rfl ?_
  refine g_isubN hX dX1_append_77 (by omega) rfl ?_
  refine g_iret hX hR dX1_append_78 ?_
  exact ⟨rfl, rfl⟩
theorem c_X1_makeAllPending (E : gE) (M : gM) (n : Nat) (hn : M 16 8 = nI n) (hb : n ≤ 30) : gMet E k_X1_makeAllPending [.ref 16] M (gVoid fun M' => M' = gset M 21 (mapTo n (fun _ => 1) (M 21))) := by
  refine gMet.of (by decide +kernel) rfl (Nat.le_of_ble_eq_true rfl) (fun X hX hR => ?_)
  have loop := up_loop n (fun k => gG X E (gset M 21 (mapTo k (fun _ => 1) (M 21))) 2 [some (.ref 16), some (.int (nI k))] [] (gQ X E (gVoid fun M' => M' = gset M 21 (mapTo n (fun _ => 1) (M 21))))) ?_ ?_
  · skip
    refine g_iconst hX dX1_makeAllPending_0 ic_0 rfl ?_
    refine g_istore_n (i := 1) hX dX1_makeAllPending_1 rfl (Nat.le_of_ble_eq_true rfl) rfl ?_
    exact gGM (by simp only [mapTo_0, gset_self]) (loop 0 (Nat.zero_le _))
  · skip
    refine g_iload_n (i := 1) hX dX1_makeAllPending_2 rfl rfl rfl ?_
    refine g_aload_n (i := 0) hX dX1_makeAllPending_3 rfl rfl rfl ?_
    refine g_getIv (x := nI n) hX fl_X1_40 rfl rfl (hn) dX1_makeAllPending_4 rfl ?_
    first | refine g_icmp_geN (tgt := 23) hX dX1_makeAllPending_7 (by decide) rfl (by omega) (by omega) (fun c7 => ?_) (fun c7 => absurd c7 (by omega)) | refine g_icmp_ge (tgt := 23) hX dX1_makeAllPending_7 (by decide) rfl (fun c7 => ?_) (fun c7 => absurd c7 (by omega))
    refine g_vret hX hR dX1_makeAllPending_23 ?_
    rfl
  · intro k hk ih
    have s := mapTo_succ k (fun _ => 1) (M 21)
    refine g_iload_n (i := 1) hX dX1_makeAllPending_2 rfl rfl rfl ?_
    refine g_aload_n (i := 0) hX dX1_makeAllPending_3 rfl rfl rfl ?_
    refine g_getIv (x := nI n) hX fl_X1_40 rfl rfl (hn) dX1_makeAllPending_4 rfl ?_
    first | refine g_icmp_geN (tgt := 23) hX dX1_makeAllPending_7 (by decide) rfl (by omega) (by omega) (fun c7 => absurd c7 (by omega)) (fun c7 => ?_) | refine g_icmp_ge (tgt := 23) hX dX1_makeAllPending_7 (by decide) rfl (fun c7 => absurd c7 (by omega)) (fun c7 => ?_)
    refine g_aload_n (i := 0) hX dX1_makeAllPending_10 rfl rfl rfl ?_
    refine g_getR hX fl_X1_24 rfl rfl dX1_makeAllPending_11 rfl ?_
    refine g_iload_n (i := 1) hX dX1_makeAllPending_14 rfl rfl rfl ?_
    refine g_iconst hX dX1_makeAllPending_15 ic_1 rfl ?_
    refine g_iast hX rfl (rfl) (by omega) rfl dX1_makeAllPending_16 rfl ?_
    first | refine g_iincN hX dX1_makeAllPending_17 ic_1 rfl (Nat.le_of_ble_eq_true rfl) rfl ?_ | refine g_iinc hX dX1_makeAllPending_17 ic_1 rfl rfl (Nat.le_of_ble_eq_true rfl) rfl ?_
    refine g_goto (n := 2) hX dX1_makeAllPending_20 (by decide) ?_
    exact gGM (by rw [gset_gset]; exact congrArg (gset M 21) s) ih
theorem c_X1_pending (E : gE) (M : gM) (n : Nat) (hn : M 16 8 = nI n) (hb : n ≤ 30) : gMet E k_X1_pending [.ref 16] M (gInt fun r M' => r = nI (cntTo n (fun k => decide (M 21 k = 1))) ∧ M' = M) := by
  refine gMet.of (by decide +kernel) rfl (Nat.le_of_ble_eq_true rfl) (fun X hX hR => ?_)
  have loop := up_loop n (fun k => gG X E M 4 [some (.ref 16), some (.int (nI (cntTo k (fun k => decide (M 21 k = 1))))), some (.int (nI k))] [] (gQ X E (gInt fun r M' => r = nI (cntTo n (fun k => decide (M 21 k = 1))) ∧ M' = M))) ?_ ?_
  · skip
    refine g_iconst hX dX1_pending_0 ic_0 rfl ?_
    refine g_istore_n (i := 1) hX dX1_pending_1 rfl (Nat.le_of_ble_eq_true rfl) rfl ?_
    refine g_iconst hX dX1_pending_2 ic_0 rfl ?_
    refine g_istore_n (i := 2) hX dX1_pending_3 rfl (Nat.le_of_ble_eq_true rfl) rfl ?_
    exact loop 0 (Nat.zero_le _)
  · skip
    refine g_iload_n (i := 2) hX dX1_pending_4 rfl rfl rfl ?_
    refine g_aload_n (i := 0) hX dX1_pending_5 rfl rfl rfl ?_
    refine g_getIv hX fl_X1_40 rfl rfl (hn) dX1_pending_6 rfl ?_
    first | refine g_icmp_geN (tgt := 31) hX dX1_pending_9 (by decide) rfl (by omega) (by omega) (fun c9 => ?_) (fun c9 => absurd c9 (by omega)) | refine g_icmp_ge (tgt := 31) hX dX1_pending_9 (by decide) rfl (fun c9 => ?_) (fun c9 => absurd c9 (by omega))
    refine g_iload_n (i := 1) hX dX1_pending_31 rfl rfl rfl ?_
    refine g_iret hX hR dX1_pending_32 ?_
    exact ⟨rfl, rfl⟩
  · intro k hk ih
    refine g_iload_n (i := 2) hX dX1_pending_4 rfl rfl rfl ?_
    refine g_aload_n (i := 0) hX dX1_pending_5 rfl rfl rfl ?_
    refine g_getIv hX fl_X1_40 rfl rfl (hn) dX1_pending_6 rfl ?_
    first | refine g_icmp_geN (tgt := 31) hX dX1_pending_9 (by decide) rfl (by omega) (by omega) (fun c9 => absurd c9 (by omega)) (fun c9 => ?_) | refine g_icmp_ge (tgt := 31) hX dX1_pending_9 (by decide) rfl (fun c9 => absurd c9 (by omega)) (fun c9 => ?_)
    refine g_aload_n (i := 0) hX dX1_pending_12 rfl rfl rfl ?_
    refine g_getR hX fl_X1_24 rfl rfl dX1_pending_13 rfl ?_
    refine g_iload_n (i := 2) hX dX1_pending_16 rfl rfl rfl ?_
    refine g_iald hX rfl (rfl) (by omega) rfl dX1_pending_17 rfl ?_
    refine g_iconst hX dX1_pending_18 ic_1 rfl ?_
    refine g_icmp_ne (tgt := 25) hX dX1_pending_19 (by decide) rfl (fun c19 => ?_) (fun c19 => ?_)
    · skip
      have c : ¬ M 21 k = 1 := c19
      first | refine g_iincN hX dX1_pending_25 ic_1 rfl (Nat.le_of_ble_eq_true rfl) rfl ?_ | refine g_iinc hX dX1_pending_25 ic_1 rfl rfl (Nat.le_of_ble_eq_true rfl) rfl ?_
      refine g_goto (n := 4) hX dX1_pending_28 (by decide) ?_
      exact (by simpa [cntTo, c] using ih)
    · skip
      have c : M 21 k = 1 := c19
      first | refine g_iincN hX dX1_pending_22 ic_1 rfl (Nat.le_of_ble_eq_true rfl) rfl ?_ | refine g_iinc hX dX1_pending_22 ic_1 rfl rfl (Nat.le_of_ble_eq_true rfl) rfl ?_
      first | refine g_iincN hX dX1_pending_25 ic_1 rfl (Nat.le_of_ble_eq_true rfl) rfl ?_ | refine g_iinc hX dX1_pending_25 ic_1 rfl rfl (Nat.le_of_ble_eq_true rfl) rfl ?_
      refine g_goto (n := 4) hX dX1_pending_28 (by decide) ?_
      exact (by simpa [cntTo, c] using ih)
theorem c_X1_numberOf (E : gE) (M : gM) (n : Nat) (m : Int32) (hn : M 16 8 = nI n) (hb : n ≤ 30) : gMet E k_X1_numberOf [.ref 16, .int m] M (gInt fun r M' => r = nI (cntTo n (fun k => decide (M 17 k = m))) ∧ M' = M) := by
  refine gMet.of (by decide +kernel) rfl (Nat.le_of_ble_eq_true rfl) (fun X hX hR => ?_)
  have loop := up_loop n (fun k => gG X E M 4 [some (.ref 16), some (.int m), some (.int (nI (cntTo k (fun k => decide (M 17 k = m))))), some (.int (nI k))] [] (gQ X E (gInt fun r M' => r = nI (cntTo n (fun k => decide (M 17 k = m))) ∧ M' = M))) ?_ ?_
  · skip
    refine g_iconst hX dX1_numberOf_0 ic_0 rfl ?_
    refine g_istore_n (i := 2) hX dX1_numberOf_1 rfl (Nat.le_of_ble_eq_true rfl) rfl ?_
    refine g_iconst hX dX1_numberOf_2 ic_0 rfl ?_
    refine g_istore_n (i := 3) hX dX1_numberOf_3 rfl (Nat.le_of_ble_eq_true rfl) rfl ?_
    exact loop 0 (Nat.zero_le _)
  · skip
    refine g_iload_n (i := 3) hX dX1_numberOf_4 rfl rfl rfl ?_
    refine g_aload_n (i := 0) hX dX1_numberOf_5 rfl rfl rfl ?_
    refine g_getIv hX fl_X1_40 rfl rfl (hn) dX1_numberOf_6 rfl ?_
    first | refine g_icmp_geN (tgt := 31) hX dX1_numberOf_9 (by decide) rfl (by omega) (by omega) (fun c9 => ?_) (fun c9 => absurd c9 (by omega)) | refine g_icmp_ge (tgt := 31) hX dX1_numberOf_9 (by decide) rfl (fun c9 => ?_) (fun c9 => absurd c9 (by omega))
    refine g_iload_n (i := 2) hX dX1_numberOf_31 rfl rfl rfl ?_
    refine g_iret hX hR dX1_numberOf_32 ?_
    exact ⟨rfl, rfl⟩
  · intro k hk ih
    refine g_iload_n (i := 3) hX dX1_numberOf_4 rfl rfl rfl ?_
    refine g_aload_n (i := 0) hX dX1_numberOf_5 rfl rfl rfl ?_
    refine g_getIv hX fl_X1_40 rfl rfl (hn) dX1_numberOf_6 rfl ?_
    first | refine g_icmp_geN (tgt := 31) hX dX1_numberOf_9 (by decide) rfl (by omega) (by omega) (fun c9 => absurd c9 (by omega)) (fun c9 => ?_) | refine g_icmp_ge (tgt := 31) hX dX1_numberOf_9 (by decide) rfl (fun c9 => absurd c9 (by omega)) (fun c9 => ?_)
    refine g_aload_n (i := 0) hX dX1_numberOf_12 rfl rfl rfl ?_
    refine g_getR hX fl_X1_9 rfl rfl dX1_numberOf_13 rfl ?_
    refine g_iload_n (i := 3) hX dX1_numberOf_16 rfl rfl rfl ?_
    refine g_iald hX rfl (rfl) (by omega) rfl dX1_numberOf_17 rfl ?_
    refine g_iload_n (i := 1) hX dX1_numberOf_18 rfl rfl rfl ?_
    refine g_icmp_ne (tgt := 25) hX dX1_numberOf_19 (by decide) rfl (fun c19 => ?_) (fun c19 => ?_)
    · skip
      first | refine g_iincN hX dX1_numberOf_25 ic_1 rfl (Nat.le_of_ble_eq_true rfl) rfl ?_ | refine g_iinc hX dX1_numberOf_25 ic_1 rfl rfl (Nat.le_of_ble_eq_true rfl) rfl ?_
      refine g_goto (n := 4) hX dX1_numberOf_28 (by decide) ?_
      exact (by simpa [cntTo, c19] using ih)
    · skip
      first | refine g_iincN hX dX1_numberOf_22 ic_1 rfl (Nat.le_of_ble_eq_true rfl) rfl ?_ | refine g_iinc hX dX1_numberOf_22 ic_1 rfl rfl (Nat.le_of_ble_eq_true rfl) rfl ?_
      first | refine g_iincN hX dX1_numberOf_25 ic_1 rfl (Nat.le_of_ble_eq_true rfl) rfl ?_ | refine g_iinc hX dX1_numberOf_25 ic_1 rfl rfl (Nat.le_of_ble_eq_true rfl) rfl ?_
      refine g_goto (n := 4) hX dX1_numberOf_28 (by decide) ?_
      exact (by simpa [cntTo, c19] using ih)
theorem c_X1_hasTechnicalOf (E : gE) (M : gM) (n : Nat) (m : Int32) (hn : M 16 8 = nI n) (hb : n ≤ 30) : gMet E k_X1_hasTechnicalOf [.ref 16, .int m] M (gInt fun r M' => r = gB (anyTo n (fun k => decide (M 17 k = m) && decide (M 19 k = 1))) ∧ M' = M) := by
  refine gMet.of (by decide +kernel) rfl (Nat.le_of_ble_eq_true rfl) (fun X hX hR => ?_)
  have loop := up_loop n (fun k => (∀ j, j < k → (decide (M 17 j = m) && decide (M 19 j = 1)) = false) → gG X E M 2 [some (.ref 16), some (.int m), some (.int (nI k))] [] (gQ X E (gInt fun r M' => r = gB (anyTo n (fun k => decide (M 17 k = m) && decide (M 19 k = 1))) ∧ M' = M))) ?_ ?_
  · skip
    refine g_iconst hX dX1_hasTechnicalOf_0 ic_0 rfl ?_
    refine g_istore_n (i := 2) hX dX1_hasTechnicalOf_1 rfl (Nat.le_of_ble_eq_true rfl) rfl ?_
    exact loop 0 (Nat.zero_le _) (fun j hj => absurd hj (by omega))
  · intro h
    refine g_iload_n (i := 2) hX dX1_hasTechnicalOf_2 rfl rfl rfl ?_
    refine g_aload_n (i := 0) hX dX1_hasTechnicalOf_3 rfl rfl rfl ?_
    refine g_getIv hX fl_X1_40 rfl rfl (hn) dX1_hasTechnicalOf_4 rfl ?_
    first | refine g_icmp_geN (tgt := 38) hX dX1_hasTechnicalOf_7 (by decide) rfl (by omega) (by omega) (fun c7 => ?_) (fun c7 => absurd c7 (by omega)) | refine g_icmp_ge (tgt := 38) hX dX1_hasTechnicalOf_7 (by decide) rfl (fun c7 => ?_) (fun c7 => absurd c7 (by omega))
    refine g_iconst hX dX1_hasTechnicalOf_38 ic_0 rfl ?_
    refine g_zret hX hR (by first | exact Or.inl rfl | exact Or.inr rfl | exact gB_01 _) dX1_hasTechnicalOf_39 ?_
    exact ⟨gB_n (anyTo_false.mpr h), rfl⟩
  · intro k hk ih h
    have step : (decide (M 17 k = m) && decide (M 19 k = 1)) = false → ∀ j, j < k + 1 → (decide (M 17 j = m) && decide (M 19 j = 1)) = false := by
      intro hk2 j hj
      by_cases ej : j = k
      · subst ej; exact hk2
      · exact h j (by omega)
    refine g_iload_n (i := 2) hX dX1_hasTechnicalOf_2 rfl rfl rfl ?_
    refine g_aload_n (i := 0) hX dX1_hasTechnicalOf_3 rfl rfl rfl ?_
    refine g_getIv hX fl_X1_40 rfl rfl (hn) dX1_hasTechnicalOf_4 rfl ?_
    first | refine g_icmp_geN (tgt := 38) hX dX1_hasTechnicalOf_7 (by decide) rfl (by omega) (by omega) (fun c7 => absurd c7 (by omega)) (fun c7 => ?_) | refine g_icmp_ge (tgt := 38) hX dX1_hasTechnicalOf_7 (by decide) rfl (fun c7 => absurd c7 (by omega)) (fun c7 => ?_)
    refine g_aload_n (i := 0) hX dX1_hasTechnicalOf_10 rfl rfl rfl ?_
    refine g_getR hX fl_X1_9 rfl rfl dX1_hasTechnicalOf_11 rfl ?_
    refine g_iload_n (i := 2) hX dX1_hasTechnicalOf_14 rfl rfl rfl ?_
    refine g_iald hX rfl (rfl) (by omega) rfl dX1_hasTechnicalOf_15 rfl ?_
    refine g_iload_n (i := 1) hX dX1_hasTechnicalOf_16 rfl rfl rfl ?_
    refine g_icmp_ne (tgt := 32) hX dX1_hasTechnicalOf_17 (by decide) rfl (fun c17 => ?_) (fun c17 => ?_)
    · skip
      first | refine g_iincN hX dX1_hasTechnicalOf_32 ic_1 rfl (Nat.le_of_ble_eq_true rfl) rfl ?_ | refine g_iinc hX dX1_hasTechnicalOf_32 ic_1 rfl rfl (Nat.le_of_ble_eq_true rfl) rfl ?_
      refine g_goto (n := 2) hX dX1_hasTechnicalOf_35 (by decide) ?_
      exact ih (step (by first | (simp [c17]; done) | (simp [c]; done)))
    · skip
      refine g_aload_n (i := 0) hX dX1_hasTechnicalOf_20 rfl rfl rfl ?_
      refine g_getR hX fl_X1_18 rfl rfl dX1_hasTechnicalOf_21 rfl ?_
      refine g_iload_n (i := 2) hX dX1_hasTechnicalOf_24 rfl rfl rfl ?_
      refine g_iald hX rfl (rfl) (by omega) rfl dX1_hasTechnicalOf_25 rfl ?_
      refine g_iconst hX dX1_hasTechnicalOf_26 ic_1 rfl ?_
      refine g_icmp_ne (tgt := 32) hX dX1_hasTechnicalOf_27 (by decide) rfl (fun c27 => ?_) (fun c27 => ?_)
      · skip
        have c : ¬ M 19 k = 1 := c27
        first | refine g_iincN hX dX1_hasTechnicalOf_32 ic_1 rfl (Nat.le_of_ble_eq_true rfl) rfl ?_ | refine g_iinc hX dX1_hasTechnicalOf_32 ic_1 rfl rfl (Nat.le_of_ble_eq_true rfl) rfl ?_
        refine g_goto (n := 2) hX dX1_hasTechnicalOf_35 (by decide) ?_
        exact ih (step (by first | (simp [c17]; done) | (simp [c]; done)))
      · skip
        have c : M 19 k = 1 := c27
        refine g_iconst hX dX1_hasTechnicalOf_30 ic_1 rfl ?_
        refine g_zret hX hR (by first | exact Or.inl rfl | exact Or.inr rfl | exact gB_01 _) dX1_hasTechnicalOf_31 ?_
        exact ⟨gB_1 (anyTo_true.mpr ⟨k, hk, by simp [c17, c]⟩), rfl⟩
/-- whether a comment ranks ahead of one with a lower number -/
def aheadX (kd pl w : Nat → Int32) (mb : Nat → Nat) (a b : Nat) : Bool := if kd a = kd b then (if pl a = pl b then decide (w (mb b) < w (mb a)) else decide (pl a < pl b)) else decide (kd a = 1)
theorem c_X1_isAhead (E : gE) (M : gM) (n a b : Nat) (mb : Nat → Nat) (hb : n ≤ 30) (ha : a < n) (hbb : b < n) (hm : ∀ k, k < n → mb k < 10 ∧ M 17 k = nI (mb k)) : gMet E k_X1_isAhead [.ref 16, .int (nI a), .int (nI b), .ref 2] M (gInt fun r M' => r = gB (aheadX (M 19) (M 18) (M 3) mb a b) ∧ M' = M) := by
  refine gMet.of (by decide +kernel) rfl (Nat.le_of_ble_eq_true rfl) (fun X hX hR => ?_)
  obtain ⟨ma1, ma2⟩ := hm a ha
  obtain ⟨mb1, mb2⟩ := hm b hbb
  refine g_aload_n (i := 0) hX dX1_isAhead_0 rfl rfl rfl ?_
  refine g_getR hX fl_X1_18 rfl rfl dX1_isAhead_1 rfl ?_
  refine g_iload_n (i := 1) hX dX1_isAhead_4 rfl rfl rfl ?_
  refine g_iald hX rfl (rfl) (by omega) rfl dX1_isAhead_5 rfl ?_
  refine g_aload_n (i := 0) hX dX1_isAhead_6 rfl rfl rfl ?_
  refine g_getR hX fl_X1_18 rfl rfl dX1_isAhead_7 rfl ?_
  refine g_iload_n (i := 2) hX dX1_isAhead_10 rfl rfl rfl ?_
  refine g_iald hX rfl (rfl) (by omega) rfl dX1_isAhead_11 rfl ?_
  refine g_icmp_eq (tgt := 31) hX dX1_isAhead_12 (by decide) rfl (fun c12 => ?_) (fun c12 => ?_)
  · skip
    refine g_aload_n (i := 0) hX dX1_isAhead_31 rfl rfl rfl ?_
    refine g_getR hX fl_X1_15 rfl rfl dX1_isAhead_32 rfl ?_
    refine g_iload_n (i := 1) hX dX1_isAhead_35 rfl rfl rfl ?_
    refine g_iald hX rfl (rfl) (by omega) rfl dX1_isAhead_36 rfl ?_
    refine g_aload_n (i := 0) hX dX1_isAhead_37 rfl rfl rfl ?_
    refine g_getR hX fl_X1_15 rfl rfl dX1_isAhead_38 rfl ?_
    refine g_iload_n (i := 2) hX dX1_isAhead_41 rfl rfl rfl ?_
    refine g_iald hX rfl (rfl) (by omega) rfl dX1_isAhead_42 rfl ?_
    refine g_icmp_eq (tgt := 67) hX dX1_isAhead_43 (by decide) rfl (fun c43 => ?_) (fun c43 => ?_)
    · skip
      refine g_aload_n (i := 3) hX dX1_isAhead_67 rfl rfl rfl ?_
      refine g_getR hX fl_X1_51 rfl rfl dX1_isAhead_68 rfl ?_
      refine g_aload_n (i := 0) hX dX1_isAhead_71 rfl rfl rfl ?_
      refine g_getR hX fl_X1_9 rfl rfl dX1_isAhead_72 rfl ?_
      refine g_iload_n (i := 1) hX dX1_isAhead_75 rfl rfl rfl ?_
      refine g_iald hX rfl (rfl) (by omega) rfl dX1_isAhead_76 rfl ?_
      refine g_iald hX rfl (ma2) (by omega) rfl dX1_isAhead_77 rfl ?_
      refine g_aload_n (i := 3) hX dX1_isAhead_78 rfl rfl rfl ?_
      refine g_getR hX fl_X1_51 rfl rfl dX1_isAhead_79 rfl ?_
      refine g_aload_n (i := 0) hX dX1_isAhead_82 rfl rfl rfl ?_
      refine g_getR hX fl_X1_9 rfl rfl dX1_isAhead_83 rfl ?_
      refine g_iload_n (i := 2) hX dX1_isAhead_86 rfl rfl rfl ?_
      refine g_iald hX rfl (rfl) (by omega) rfl dX1_isAhead_87 rfl ?_
      refine g_iald hX rfl (mb2) (by omega) rfl dX1_isAhead_88 rfl ?_
      refine g_icmp_le (tgt := 96) hX dX1_isAhead_89 (by decide) rfl (fun c89 => ?_) (fun c89 => ?_)
      · skip
        refine g_iconst hX dX1_isAhead_96 ic_0 rfl ?_
        refine g_zret hX hR (by first | exact Or.inl rfl | exact Or.inr rfl | exact gB_01 _) dX1_isAhead_97 ?_
        refine ⟨?_, rfl⟩
        first
          | exact gB_1 (by simp only [aheadX, if_pos c12, if_pos c43]; exact decide_eq_true (Int32.not_le.mp c89))
          | exact gB_n (by simp only [aheadX, if_pos c12, if_pos c43]; exact decide_eq_false (Int32.not_lt.mpr c89))
      · skip
        refine g_iconst hX dX1_isAhead_92 ic_1 rfl ?_
        refine g_goto (n := 97) hX dX1_isAhead_93 (by decide) ?_
        refine g_zret hX hR (by first | exact Or.inl rfl | exact Or.inr rfl | exact gB_01 _) dX1_isAhead_97 ?_
        refine ⟨?_, rfl⟩
        first
          | exact gB_1 (by simp only [aheadX, if_pos c12, if_pos c43]; exact decide_eq_true (Int32.not_le.mp c89))
          | exact gB_n (by simp only [aheadX, if_pos c12, if_pos c43]; exact decide_eq_false (Int32.not_lt.mpr c89))
    · skip
      refine g_aload_n (i := 0) hX dX1_isAhead_46 rfl rfl rfl ?_
      refine g_getR hX fl_X1_15 rfl rfl dX1_isAhead_47 rfl ?_
      refine g_iload_n (i := 1) hX dX1_isAhead_50 rfl rfl rfl ?_
      refine g_iald hX rfl (rfl) (by omega) rfl dX1_isAhead_51 rfl ?_
      refine g_aload_n (i := 0) hX dX1_isAhead_52 rfl rfl rfl ?_
      refine g_getR hX fl_X1_15 rfl rfl dX1_isAhead_53 rfl ?_
      refine g_iload_n (i := 2) hX dX1_isAhead_56 rfl rfl rfl ?_
      refine g_iald hX rfl (rfl) (by omega) rfl dX1_isAhead_57 rfl ?_
      refine g_icmp_ge (tgt := 65) hX dX1_isAhead_58 (by decide) rfl (fun c58 => ?_) (fun c58 => ?_)
      · skip
        refine g_iconst hX dX1_isAhead_65 ic_0 rfl ?_
        refine g_zret hX hR (by first | exact Or.inl rfl | exact Or.inr rfl | exact gB_01 _) dX1_isAhead_66 ?_
        refine ⟨?_, rfl⟩
        first
          | exact gB_1 (by simp only [aheadX, if_pos c12, if_neg c43]; exact decide_eq_true (Int32.not_le.mp c58))
          | exact gB_n (by simp only [aheadX, if_pos c12, if_neg c43]; exact decide_eq_false (Int32.not_lt.mpr c58))
      · skip
        refine g_iconst hX dX1_isAhead_61 ic_1 rfl ?_
        refine g_goto (n := 66) hX dX1_isAhead_62 (by decide) ?_
        refine g_zret hX hR (by first | exact Or.inl rfl | exact Or.inr rfl | exact gB_01 _) dX1_isAhead_66 ?_
        refine ⟨?_, rfl⟩
        first
          | exact gB_1 (by simp only [aheadX, if_pos c12, if_neg c43]; exact decide_eq_true (Int32.not_le.mp c58))
          | exact gB_n (by simp only [aheadX, if_pos c12, if_neg c43]; exact decide_eq_false (Int32.not_lt.mpr c58))
  · skip
    refine g_aload_n (i := 0) hX dX1_isAhead_15 rfl rfl rfl ?_
    refine g_getR hX fl_X1_18 rfl rfl dX1_isAhead_16 rfl ?_
    refine g_iload_n (i := 1) hX dX1_isAhead_19 rfl rfl rfl ?_
    refine g_iald hX rfl (rfl) (by omega) rfl dX1_isAhead_20 rfl ?_
    refine g_iconst hX dX1_isAhead_21 ic_1 rfl ?_
    refine g_icmp_ne (tgt := 29) hX dX1_isAhead_22 (by decide) rfl (fun c22 => ?_) (fun c22 => ?_)
    · skip
      have c : ¬ M 19 a = 1 := c22
      refine g_iconst hX dX1_isAhead_29 ic_0 rfl ?_
      refine g_zret hX hR (by first | exact Or.inl rfl | exact Or.inr rfl | exact gB_01 _) dX1_isAhead_30 ?_
      refine ⟨?_, rfl⟩; first | exact gB_1 (by simp only [aheadX, if_neg c12]; exact decide_eq_true c) | exact gB_n (by simp only [aheadX, if_neg c12]; exact decide_eq_false c)
    · skip
      have c : M 19 a = 1 := c22
      refine g_iconst hX dX1_isAhead_25 ic_1 rfl ?_
      refine g_goto (n := 30) hX dX1_isAhead_26 (by decide) ?_
      refine g_zret hX hR (by first | exact Or.inl rfl | exact Or.inr rfl | exact gB_01 _) dX1_isAhead_30 ?_
      refine ⟨?_, rfl⟩; first | exact gB_1 (by simp only [aheadX, if_neg c12]; exact decide_eq_true c) | exact gB_n (by simp only [aheadX, if_neg c12]; exact decide_eq_false c)
def pendB (s : Nat → Int32) (k : Nat) : Bool := decide (s k = 1)
theorem c_X1_firstPending (E : gE) (M : gM) (n : Nat) (mb : Nat → Nat) (hn : M 16 8 = nI n) (hb : n ≤ 30) (hm : ∀ k, k < n → mb k < 10 ∧ M 17 k = nI (mb k)) : gMet E k_X1_firstPending [.ref 16, .ref 2] M (gInt fun r M' => r = optI (-1) (bestTo n (pendB (M 21)) (aheadX (M 19) (M 18) (M 3) mb)) ∧ M' = M) := by
  refine gMet.of (by decide +kernel) rfl (Nat.le_of_ble_eq_true rfl) (fun X hX hR => ?_)
  have loop := up_loop n (fun k => gG X E M 4 [some (.ref 16), some (.ref 2), some (.int (optI (-1) (bestTo k (pendB (M 21)) (aheadX (M 19) (M 18) (M 3) mb)))), some (.int (nI k))] [] (gQ X E (gInt fun r M' => r = optI (-1) (bestTo n (pendB (M 21)) (aheadX (M 19) (M 18) (M 3) mb)) ∧ M' = M))) ?_ ?_
  · skip
    refine g_iconst hX dX1_firstPending_0 ic_m1 rfl ?_
    refine g_istore_n (i := 2) hX dX1_firstPending_1 rfl (Nat.le_of_ble_eq_true rfl) rfl ?_
    refine g_iconst hX dX1_firstPending_2 ic_0 rfl ?_
    refine g_istore_n (i := 3) hX dX1_firstPending_3 rfl (Nat.le_of_ble_eq_true rfl) rfl ?_
    exact loop 0 (Nat.zero_le _)
  · skip
    refine g_iload_n (i := 3) hX dX1_firstPending_4 rfl rfl rfl ?_
    refine g_aload_n (i := 0) hX dX1_firstPending_5 rfl rfl rfl ?_
    refine g_getIv hX fl_X1_40 rfl rfl (hn) dX1_firstPending_6 rfl ?_
    first | refine g_icmp_geN (tgt := 45) hX dX1_firstPending_9 (by decide) rfl (by omega) (by omega) (fun c9 => ?_) (fun c9 => absurd c9 (by omega)) | refine g_icmp_ge (tgt := 45) hX dX1_firstPending_9 (by decide) rfl (fun c9 => ?_) (fun c9 => absurd c9 (by omega))
    refine g_iload_n (i := 2) hX dX1_firstPending_45 rfl rfl rfl ?_
    refine g_iret hX hR dX1_firstPending_46 ?_
    exact ⟨rfl, rfl⟩
  · intro k hk ih
    simp only [bestTo] at ih
    cases ho : bestTo k (pendB (M 21)) (aheadX (M 19) (M 18) (M 3) mb) with
    | none =>
      rw [ho] at ih
      refine g_iload_n (i := 3) hX dX1_firstPending_4 rfl rfl rfl ?_
      refine g_aload_n (i := 0) hX dX1_firstPending_5 rfl rfl rfl ?_
      refine g_getIv hX fl_X1_40 rfl rfl (hn) dX1_firstPending_6 rfl ?_
      first | refine g_icmp_geN (tgt := 45) hX dX1_firstPending_9 (by decide) rfl (by omega) (by omega) (fun c9 => absurd c9 (by omega)) (fun c9 => ?_) | refine g_icmp_ge (tgt := 45) hX dX1_firstPending_9 (by decide) rfl (fun c9 => absurd c9 (by omega)) (fun c9 => ?_)
      refine g_aload_n (i := 0) hX dX1_firstPending_12 rfl rfl rfl ?_
      refine g_getR hX fl_X1_24 rfl rfl dX1_firstPending_13 rfl ?_
      refine g_iload_n (i := 3) hX dX1_firstPending_16 rfl rfl rfl ?_
      refine g_iald hX rfl (rfl) (by omega) rfl dX1_firstPending_17 rfl ?_
      refine g_iconst hX dX1_firstPending_18 ic_1 rfl ?_
      refine g_icmp_ne (tgt := 39) hX dX1_firstPending_19 (by decide) rfl (fun c19 => ?_) (fun c19 => ?_)
      · skip
        have c : ¬ M 21 k = 1 := c19
        first | refine g_iincN hX dX1_firstPending_39 ic_1 rfl (Nat.le_of_ble_eq_true rfl) rfl ?_ | refine g_iinc hX dX1_firstPending_39 ic_1 rfl rfl (Nat.le_of_ble_eq_true rfl) rfl ?_
        refine g_goto (n := 4) hX dX1_firstPending_42 (by decide) ?_
        exact (by simpa [isB, pendB, c, optI] using ih)
      · skip
        have c : M 21 k = 1 := c19
        refine g_iload_n (i := 2) hX dX1_firstPending_22 rfl rfl rfl ?_
        refine g_iconst hX dX1_firstPending_23 ic_m1 rfl ?_
        refine g_icmp_eq (tgt := 37) hX dX1_firstPending_24 (by decide) rfl (fun c24 => ?_) (fun c24 => absurd rfl c24)
        refine g_iload_n (i := 3) hX dX1_firstPending_37 rfl rfl rfl ?_
        refine g_istore_n (i := 2) hX dX1_firstPending_38 rfl (Nat.le_of_ble_eq_true rfl) rfl ?_
        first | refine g_iincN hX dX1_firstPending_39 ic_1 rfl (Nat.le_of_ble_eq_true rfl) rfl ?_ | refine g_iinc hX dX1_firstPending_39 ic_1 rfl rfl (Nat.le_of_ble_eq_true rfl) rfl ?_
        refine g_goto (n := 4) hX dX1_firstPending_42 (by decide) ?_
        exact (by simpa [isB, pendB, c, optI] using ih)
    | some q =>
      rw [ho] at ih
      have hq := (bestTo_lt ho).1
      refine g_iload_n (i := 3) hX dX1_firstPending_4 rfl rfl rfl ?_
      refine g_aload_n (i := 0) hX dX1_firstPending_5 rfl rfl rfl ?_
      refine g_getIv hX fl_X1_40 rfl rfl (hn) dX1_firstPending_6 rfl ?_
      first | refine g_icmp_geN (tgt := 45) hX dX1_firstPending_9 (by decide) rfl (by omega) (by omega) (fun c9 => absurd c9 (by omega)) (fun c9 => ?_) | refine g_icmp_ge (tgt := 45) hX dX1_firstPending_9 (by decide) rfl (fun c9 => absurd c9 (by omega)) (fun c9 => ?_)
      refine g_aload_n (i := 0) hX dX1_firstPending_12 rfl rfl rfl ?_
      refine g_getR hX fl_X1_24 rfl rfl dX1_firstPending_13 rfl ?_
      refine g_iload_n (i := 3) hX dX1_firstPending_16 rfl rfl rfl ?_
      refine g_iald hX rfl (rfl) (by omega) rfl dX1_firstPending_17 rfl ?_
      refine g_iconst hX dX1_firstPending_18 ic_1 rfl ?_
      refine g_icmp_ne (tgt := 39) hX dX1_firstPending_19 (by decide) rfl (fun c19 => ?_) (fun c19 => ?_)
      · skip
        have c : ¬ M 21 k = 1 := c19
        first | refine g_iincN hX dX1_firstPending_39 ic_1 rfl (Nat.le_of_ble_eq_true rfl) rfl ?_ | refine g_iinc hX dX1_firstPending_39 ic_1 rfl rfl (Nat.le_of_ble_eq_true rfl) rfl ?_
        refine g_goto (n := 4) hX dX1_firstPending_42 (by decide) ?_
        first | exact (by simpa [isB, pendB, c, optI] using ih) | exact (by simpa [isB, pendB, c, c34, optI] using ih)
      · skip
        have c : M 21 k = 1 := c19
        refine g_iload_n (i := 2) hX dX1_firstPending_22 rfl rfl rfl ?_
        refine g_iconst hX dX1_firstPending_23 ic_m1 rfl ?_
        refine g_icmp_eq (tgt := 37) hX dX1_firstPending_24 (by decide) rfl (fun c24 => absurd c24 (nI_ne_m1 (by omega))) (fun c24 => ?_)
        refine g_aload_n (i := 0) hX dX1_firstPending_27 rfl rfl rfl ?_
        refine g_iload_n (i := 3) hX dX1_firstPending_28 rfl rfl rfl ?_
        refine g_iload_n (i := 2) hX dX1_firstPending_29 rfl rfl rfl ?_
        refine g_aload_n (i := 1) hX dX1_firstPending_30 rfl rfl rfl ?_
        refine g_callVi hX (c_X1_isAhead E M n k q mb hb hk (by omega) hm) kf_X1_isAhead rfl wk_X1_47 rfl rfl rfl rfl rfl dX1_firstPending_31 rfl (fun x31 M31 h31 => ?_)
        obtain ⟨rfl, hm⟩ := h31; have hm := hm.symm; subst hm
        first | refine g_if_eqB (tgt := 39) hX dX1_firstPending_34 (by decide) rfl (fun c34 => ?_) (fun c34 => ?_) | refine g_if_eq (tgt := 39) hX dX1_firstPending_34 (by decide) rfl (fun c34 => ?_) (fun c34 => ?_)
        · skip
          first | refine g_iincN hX dX1_firstPending_39 ic_1 rfl (Nat.le_of_ble_eq_true rfl) rfl ?_ | refine g_iinc hX dX1_firstPending_39 ic_1 rfl rfl (Nat.le_of_ble_eq_true rfl) rfl ?_
          refine g_goto (n := 4) hX dX1_firstPending_42 (by decide) ?_
          first | exact (by simpa [isB, pendB, c, optI] using ih) | exact (by simpa [isB, pendB, c, c34, optI] using ih)
        · skip
          refine g_iload_n (i := 3) hX dX1_firstPending_37 rfl rfl rfl ?_
          refine g_istore_n (i := 2) hX dX1_firstPending_38 rfl (Nat.le_of_ble_eq_true rfl) rfl ?_
          first | refine g_iincN hX dX1_firstPending_39 ic_1 rfl (Nat.le_of_ble_eq_true rfl) rfl ?_ | refine g_iinc hX dX1_firstPending_39 ic_1 rfl rfl (Nat.le_of_ble_eq_true rfl) rfl ?_
          refine g_goto (n := 4) hX dX1_firstPending_42 (by decide) ?_
          first | exact (by simpa [isB, pendB, c, optI] using ih) | exact (by simpa [isB, pendB, c, c34, optI] using ih)
def m_resolve (M : gM) (c : Nat) (s d v : Int32) : gM := gset (gset (gset (gset (gset M 21 (upd (M 21) c s)) 22 (upd (M 22) c d)) 23 (upd (M 23) c v)) 24 (upd (M 24) c (M 16 9))) 16 (upd (M 16) 9 (M 16 9 + 1))
theorem c_X1_resolveAs (E : gE) (M : gM) (c : Nat) (d v t : Int32) (hc : c < 30) : gMet E k_X1_resolveAs [.ref 16, .int (nI c), .int d, .int v, .int t] M (gVoid fun M' => M' = m_resolve M c (2 + d) t v) := by
  refine gMet.of (by decide +kernel) rfl (Nat.le_of_ble_eq_true rfl) (fun X hX hR => ?_)
  refine g_aload_n (i := 0) hX dX1_resolveAs_0 rfl rfl rfl ?_
  refine g_getR hX fl_X1_24 rfl rfl dX1_resolveAs_1 rfl ?_
  refine g_iload_n (i := 1) hX dX1_resolveAs_4 rfl rfl rfl ?_
  refine g_iconst hX dX1_resolveAs_5 ic_2 rfl ?_
  refine g_iload_n (i := 2) hX dX1_resolveAs_6 rfl rfl rfl ?_
  refine g_iadd hX dX1_resolveAs_7 rfl ?_
  refine g_iast hX rfl (rfl) (by omega) rfl dX1_resolveAs_8 rfl ?_
  refine g_aload_n (i := 0) hX dX1_resolveAs_9 rfl rfl rfl ?_
  refine g_getR hX fl_X1_27 rfl rfl dX1_resolveAs_10 rfl ?_
  refine g_iload_n (i := 1) hX dX1_resolveAs_13 rfl rfl rfl ?_
  refine g_iload hX dX1_resolveAs_14 rfl rfl ?_
  refine g_iast hX rfl (rfl) (by omega) rfl dX1_resolveAs_16 rfl ?_
  refine g_aload_n (i := 0) hX dX1_resolveAs_17 rfl rfl rfl ?_
  refine g_getR hX fl_X1_30 rfl rfl dX1_resolveAs_18 rfl ?_
  refine g_iload_n (i := 1) hX dX1_resolveAs_21 rfl rfl rfl ?_
  refine g_iload_n (i := 3) hX dX1_resolveAs_22 rfl rfl rfl ?_
  refine g_iast hX rfl (rfl) (by omega) rfl dX1_resolveAs_23 rfl ?_
  refine g_aload_n (i := 0) hX dX1_resolveAs_24 rfl rfl rfl ?_
  refine g_getR hX fl_X1_33 rfl rfl dX1_resolveAs_25 rfl ?_
  refine g_iload_n (i := 1) hX dX1_resolveAs_28 rfl rfl rfl ?_
  refine g_aload_n (i := 0) hX dX1_resolveAs_29 rfl rfl rfl ?_
  refine g_getIv (x := M 16 9) hX fl_X1_44 rfl rfl (rfl) dX1_resolveAs_30 rfl ?_
  refine g_iast hX rfl (rfl) (by omega) rfl dX1_resolveAs_33 rfl ?_
  refine g_aload_n (i := 0) hX dX1_resolveAs_34 rfl rfl rfl ?_
  refine g_dup hX dX1_resolveAs_35 rfl rfl ?_
  refine g_getIv (x := M 16 9) hX fl_X1_44 rfl rfl (rfl) dX1_resolveAs_36 rfl ?_
  refine g_iconst hX dX1_resolveAs_39 ic_1 rfl ?_
  first | refine g_iaddN hX dX1_resolveAs_40 rfl ?_ | refine g_iadd hX dX1_resolveAs_40 rfl ?_
  refine g_putI hX fp_X1_44 rfl rfl dX1_resolveAs_41 rfl ?_
  refine g_vret hX hR dX1_resolveAs_44 ?_
  rfl
/-- those that stand and gave a clause a value -/
def behB (pl st gv : Nat → Int32) (p v : Int32) (k : Nat) : Bool := decide (pl k = p) && gaveB (st k) && decide (gv k = v)
def turnB (tn : Nat → Int32) (k b : Nat) : Bool := decide (tn k < tn b)
theorem c_X1_firstBehind (E : gE) (M : gM) (n : Nat) (p v : Int32) (hn : M 16 8 = nI n) (hb : n ≤ 30) : gMet E k_X1_firstBehind [.ref 16, .int p, .int v] M (gInt fun r M' => r = optI (-1) (bestTo n (behB (M 18) (M 21) (M 23) p v) (turnB (M 24))) ∧ M' = M) := by
  refine gMet.of (by decide +kernel) rfl (Nat.le_of_ble_eq_true rfl) (fun X hX hR => ?_)
  have loop := up_loop n (fun k => gG X E M 5 [some (.ref 16), some (.int p), some (.int v), some (.int (optI (-1) (bestTo k (behB (M 18) (M 21) (M 23) p v) (turnB (M 24))))), some (.int (nI k))] [] (gQ X E (gInt fun r M' => r = optI (-1) (bestTo n (behB (M 18) (M 21) (M 23) p v) (turnB (M 24))) ∧ M' = M))) ?_ ?_
  · skip
    refine g_iconst hX dX1_firstBehind_0 ic_m1 rfl ?_
    refine g_istore_n (i := 3) hX dX1_firstBehind_1 rfl (Nat.le_of_ble_eq_true rfl) rfl ?_
    refine g_iconst hX dX1_firstBehind_2 ic_0 rfl ?_
    refine g_istore hX dX1_firstBehind_3 (Nat.le_of_ble_eq_true rfl) rfl ?_
    exact loop 0 (Nat.zero_le _)
  · skip
    refine g_iload hX dX1_firstBehind_5 rfl rfl ?_
    refine g_aload_n (i := 0) hX dX1_firstBehind_7 rfl rfl rfl ?_
    refine g_getIv hX fl_X1_40 rfl rfl (hn) dX1_firstBehind_8 rfl ?_
    first | refine g_icmp_geN (tgt := 75) hX dX1_firstBehind_11 (by decide) rfl (by omega) (by omega) (fun c11 => ?_) (fun c11 => absurd c11 (by omega)) | refine g_icmp_ge (tgt := 75) hX dX1_firstBehind_11 (by decide) rfl (fun c11 => ?_) (fun c11 => absurd c11 (by omega))
    refine g_iload_n (i := 3) hX dX1_firstBehind_75 rfl rfl rfl ?_
    refine g_iret hX hR dX1_firstBehind_76 ?_
    exact ⟨rfl, rfl⟩
  · intro k hk ih
    simp only [bestTo] at ih
    cases ho : bestTo k (behB (M 18) (M 21) (M 23) p v) (turnB (M 24)) with
    | none =>
      rw [ho] at ih
      refine g_iload hX dX1_firstBehind_5 rfl rfl ?_
      refine g_aload_n (i := 0) hX dX1_firstBehind_7 rfl rfl rfl ?_
      refine g_getIv hX fl_X1_40 rfl rfl (hn) dX1_firstBehind_8 rfl ?_
      first | refine g_icmp_geN (tgt := 75) hX dX1_firstBehind_11 (by decide) rfl (by omega) (by omega) (fun c11 => absurd c11 (by omega)) (fun c11 => ?_) | refine g_icmp_ge (tgt := 75) hX dX1_firstBehind_11 (by decide) rfl (fun c11 => absurd c11 (by omega)) (fun c11 => ?_)
      refine g_aload_n (i := 0) hX dX1_firstBehind_14 rfl rfl rfl ?_
      refine g_getR hX fl_X1_15 rfl rfl dX1_firstBehind_15 rfl ?_
      refine g_iload hX dX1_firstBehind_18 rfl rfl ?_
      refine g_iald hX rfl (rfl) (by omega) rfl dX1_firstBehind_20 rfl ?_
      refine g_iload_n (i := 1) hX dX1_firstBehind_21 rfl rfl rfl ?_
      refine g_icmp_ne (tgt := 69) hX dX1_firstBehind_22 (by decide) rfl (fun c22 => ?_) (fun c22 => ?_)
      · skip
        first | refine g_iincN hX dX1_firstBehind_69 ic_1 rfl (Nat.le_of_ble_eq_true rfl) rfl ?_ | refine g_iinc hX dX1_firstBehind_69 ic_1 rfl rfl (Nat.le_of_ble_eq_true rfl) rfl ?_
        refine g_goto (n := 5) hX dX1_firstBehind_72 (by decide) ?_
        first | exact (by simpa [isB, behB, c22, optI] using ih) | exact (by simpa [isB, behB, c22, c31, optI] using ih) | exact (by simpa [isB, behB, c22, c31, c42, optI] using ih)
      · skip
        refine g_aload_n (i := 0) hX dX1_firstBehind_25 rfl rfl rfl ?_
        refine g_iload hX dX1_firstBehind_26 rfl rfl ?_
        refine g_callVi hX (c_X1_gaveValue E M k (by omega)) kf_X1_gaveValue rfl wk_X1_56 rfl rfl rfl rfl rfl dX1_firstBehind_28 rfl (fun x28 M28 h28 => ?_)
        obtain ⟨rfl, hm⟩ := h28; have hm := hm.symm; subst hm
        first | refine g_if_eqB (tgt := 69) hX dX1_firstBehind_31 (by decide) rfl (fun c31 => ?_) (fun c31 => ?_) | refine g_if_eq (tgt := 69) hX dX1_firstBehind_31 (by decide) rfl (fun c31 => ?_) (fun c31 => ?_)
        · skip
          first | refine g_iincN hX dX1_firstBehind_69 ic_1 rfl (Nat.le_of_ble_eq_true rfl) rfl ?_ | refine g_iinc hX dX1_firstBehind_69 ic_1 rfl rfl (Nat.le_of_ble_eq_true rfl) rfl ?_
          refine g_goto (n := 5) hX dX1_firstBehind_72 (by decide) ?_
          first | exact (by simpa [isB, behB, c22, optI] using ih) | exact (by simpa [isB, behB, c22, c31, optI] using ih) | exact (by simpa [isB, behB, c22, c31, c42, optI] using ih)
        · skip
          refine g_aload_n (i := 0) hX dX1_firstBehind_34 rfl rfl rfl ?_
          refine g_getR hX fl_X1_30 rfl rfl dX1_firstBehind_35 rfl ?_
          refine g_iload hX dX1_firstBehind_38 rfl rfl ?_
          refine g_iald hX rfl (rfl) (by omega) rfl dX1_firstBehind_40 rfl ?_
          refine g_iload_n (i := 2) hX dX1_firstBehind_41 rfl rfl rfl ?_
          refine g_icmp_ne (tgt := 69) hX dX1_firstBehind_42 (by decide) rfl (fun c42 => ?_) (fun c42 => ?_)
          · skip
            first | refine g_iincN hX dX1_firstBehind_69 ic_1 rfl (Nat.le_of_ble_eq_true rfl) rfl ?_ | refine g_iinc hX dX1_firstBehind_69 ic_1 rfl rfl (Nat.le_of_ble_eq_true rfl) rfl ?_
            refine g_goto (n := 5) hX dX1_firstBehind_72 (by decide) ?_
            first | exact (by simpa [isB, behB, c22, optI] using ih) | exact (by simpa [isB, behB, c22, c31, optI] using ih) | exact (by simpa [isB, behB, c22, c31, c42, optI] using ih)
          · skip
            refine g_iload_n (i := 3) hX dX1_firstBehind_45 rfl rfl rfl ?_
            refine g_iconst hX dX1_firstBehind_46 ic_m1 rfl ?_
            refine g_icmp_eq (tgt := 66) hX dX1_firstBehind_47 (by decide) rfl (fun c47 => ?_) (fun c47 => absurd rfl c47)
            refine g_iload hX dX1_firstBehind_66 rfl rfl ?_
            refine g_istore_n (i := 3) hX dX1_firstBehind_68 rfl (Nat.le_of_ble_eq_true rfl) rfl ?_
            first | refine g_iincN hX dX1_firstBehind_69 ic_1 rfl (Nat.le_of_ble_eq_true rfl) rfl ?_ | refine g_iinc hX dX1_firstBehind_69 ic_1 rfl rfl (Nat.le_of_ble_eq_true rfl) rfl ?_
            refine g_goto (n := 5) hX dX1_firstBehind_72 (by decide) ?_
            first | exact (by simpa [isB, behB, c22, optI] using ih) | exact (by simpa [isB, behB, c22, c31, optI] using ih) | exact (by simpa [isB, behB, c22, c31, c42, optI] using ih)
    | some q =>
      rw [ho] at ih
      have hq := (bestTo_lt ho).1
      refine g_iload hX dX1_firstBehind_5 rfl rfl ?_
      refine g_aload_n (i := 0) hX dX1_firstBehind_7 rfl rfl rfl ?_
      refine g_getIv hX fl_X1_40 rfl rfl (hn) dX1_firstBehind_8 rfl ?_
      first | refine g_icmp_geN (tgt := 75) hX dX1_firstBehind_11 (by decide) rfl (by omega) (by omega) (fun c11 => absurd c11 (by omega)) (fun c11 => ?_) | refine g_icmp_ge (tgt := 75) hX dX1_firstBehind_11 (by decide) rfl (fun c11 => absurd c11 (by omega)) (fun c11 => ?_)
      refine g_aload_n (i := 0) hX dX1_firstBehind_14 rfl rfl rfl ?_
      refine g_getR hX fl_X1_15 rfl rfl dX1_firstBehind_15 rfl ?_
      refine g_iload hX dX1_firstBehind_18 rfl rfl ?_
      refine g_iald hX rfl (rfl) (by omega) rfl dX1_firstBehind_20 rfl ?_
      refine g_iload_n (i := 1) hX dX1_firstBehind_21 rfl rfl rfl ?_
      refine g_icmp_ne (tgt := 69) hX dX1_firstBehind_22 (by decide) rfl (fun c22 => ?_) (fun c22 => ?_)
      · skip
        first | refine g_iincN hX dX1_firstBehind_69 ic_1 rfl (Nat.le_of_ble_eq_true rfl) rfl ?_ | refine g_iinc hX dX1_firstBehind_69 ic_1 rfl rfl (Nat.le_of_ble_eq_true rfl) rfl ?_
        refine g_goto (n := 5) hX dX1_firstBehind_72 (by decide) ?_
        first | exact (by simpa [isB, behB, c22, optI] using ih) | exact (by simpa [isB, behB, c22, c31, optI] using ih) | exact (by simpa [isB, behB, c22, c31, c42, optI] using ih) | exact (by simpa [isB, behB, turnB, c22, c31, c42, c, optI] using ih)
      · skip
        refine g_aload_n (i := 0) hX dX1_firstBehind_25 rfl rfl rfl ?_
        refine g_iload hX dX1_firstBehind_26 rfl rfl ?_
        refine g_callVi hX (c_X1_gaveValue E M k (by omega)) kf_X1_gaveValue rfl wk_X1_56 rfl rfl rfl rfl rfl dX1_firstBehind_28 rfl (fun x28 M28 h28 => ?_)
        obtain ⟨rfl, hm⟩ := h28; have hm := hm.symm; subst hm
        first | refine g_if_eqB (tgt := 69) hX dX1_firstBehind_31 (by decide) rfl (fun c31 => ?_) (fun c31 => ?_) | refine g_if_eq (tgt := 69) hX dX1_firstBehind_31 (by decide) rfl (fun c31 => ?_) (fun c31 => ?_)
        · skip
          first | refine g_iincN hX dX1_firstBehind_69 ic_1 rfl (Nat.le_of_ble_eq_true rfl) rfl ?_ | refine g_iinc hX dX1_firstBehind_69 ic_1 rfl rfl (Nat.le_of_ble_eq_true rfl) rfl ?_
          refine g_goto (n := 5) hX dX1_firstBehind_72 (by decide) ?_
          first | exact (by simpa [isB, behB, c22, optI] using ih) | exact (by simpa [isB, behB, c22, c31, optI] using ih) | exact (by simpa [isB, behB, c22, c31, c42, optI] using ih) | exact (by simpa [isB, behB, turnB, c22, c31, c42, c, optI] using ih)
        · skip
          refine g_aload_n (i := 0) hX dX1_firstBehind_34 rfl rfl rfl ?_
          refine g_getR hX fl_X1_30 rfl rfl dX1_firstBehind_35 rfl ?_
          refine g_iload hX dX1_firstBehind_38 rfl rfl ?_
          refine g_iald hX rfl (rfl) (by omega) rfl dX1_firstBehind_40 rfl ?_
          refine g_iload_n (i := 2) hX dX1_firstBehind_41 rfl rfl rfl ?_
          refine g_icmp_ne (tgt := 69) hX dX1_firstBehind_42 (by decide) rfl (fun c42 => ?_) (fun c42 => ?_)
          · skip
            first | refine g_iincN hX dX1_firstBehind_69 ic_1 rfl (Nat.le_of_ble_eq_true rfl) rfl ?_ | refine g_iinc hX dX1_firstBehind_69 ic_1 rfl rfl (Nat.le_of_ble_eq_true rfl) rfl ?_
            refine g_goto (n := 5) hX dX1_firstBehind_72 (by decide) ?_
            first | exact (by simpa [isB, behB, c22, optI] using ih) | exact (by simpa [isB, behB, c22, c31, optI] using ih) | exact (by simpa [isB, behB, c22, c31, c42, optI] using ih) | exact (by simpa [isB, behB, turnB, c22, c31, c42, c, optI] using ih)
          · skip
            refine g_iload_n (i := 3) hX dX1_firstBehind_45 rfl rfl rfl ?_
            refine g_iconst hX dX1_firstBehind_46 ic_m1 rfl ?_
            refine g_icmp_eq (tgt := 66) hX dX1_firstBehind_47 (by decide) rfl (fun c47 => absurd c47 (nI_ne_m1 (by omega))) (fun c47 => ?_)
            refine g_aload_n (i := 0) hX dX1_firstBehind_50 rfl rfl rfl ?_
            refine g_getR hX fl_X1_33 rfl rfl dX1_firstBehind_51 rfl ?_
            refine g_iload hX dX1_firstBehind_54 rfl rfl ?_
            refine g_iald hX rfl (rfl) (by omega) rfl dX1_firstBehind_56 rfl ?_
            refine g_aload_n (i := 0) hX dX1_firstBehind_57 rfl rfl rfl ?_
            refine g_getR hX fl_X1_33 rfl rfl dX1_firstBehind_58 rfl ?_
            refine g_iload_n (i := 3) hX dX1_firstBehind_61 rfl rfl rfl ?_
            refine g_iald hX rfl ((rfl : _ = nI q)) (by omega) rfl dX1_firstBehind_62 rfl ?_
            refine g_icmp_ge (tgt := 69) hX dX1_firstBehind_63 (by decide) rfl (fun c63 => ?_) (fun c63 => ?_)
            · skip
              have c : ¬ M 24 k < M 24 q := Int32.not_lt.mpr c63
              first | refine g_iincN hX dX1_firstBehind_69 ic_1 rfl (Nat.le_of_ble_eq_true rfl) rfl ?_ | refine g_iinc hX dX1_firstBehind_69 ic_1 rfl rfl (Nat.le_of_ble_eq_true rfl) rfl ?_
              refine g_goto (n := 5) hX dX1_firstBehind_72 (by decide) ?_
              first | exact (by simpa [isB, behB, c22, optI] using ih) | exact (by simpa [isB, behB, c22, c31, optI] using ih) | exact (by simpa [isB, behB, c22, c31, c42, optI] using ih) | exact (by simpa [isB, behB, turnB, c22, c31, c42, c, optI] using ih)
            · skip
              have c : M 24 k < M 24 q := Int32.not_le.mp c63
              refine g_iload hX dX1_firstBehind_66 rfl rfl ?_
              refine g_istore_n (i := 3) hX dX1_firstBehind_68 rfl (Nat.le_of_ble_eq_true rfl) rfl ?_
              first | refine g_iincN hX dX1_firstBehind_69 ic_1 rfl (Nat.le_of_ble_eq_true rfl) rfl ?_ | refine g_iinc hX dX1_firstBehind_69 ic_1 rfl rfl (Nat.le_of_ble_eq_true rfl) rfl ?_
              refine g_goto (n := 5) hX dX1_firstBehind_72 (by decide) ?_
              first | exact (by simpa [isB, behB, c22, optI] using ih) | exact (by simpa [isB, behB, c22, c31, optI] using ih) | exact (by simpa [isB, behB, c22, c31, c42, optI] using ih) | exact (by simpa [isB, behB, turnB, c22, c31, c42, c, optI] using ih)
end
