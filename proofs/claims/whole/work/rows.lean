section
/-- a private method of a class that the tables say can be made, by its rows of tables_1 -/
def lw_okq (q : MethodName × Nat) : Prop := (q.1.cls ≠ "java/lang/invoke/MethodHandle" ∧ q.1.cls ≠ "java/lang/invoke/VarHandle") ∧ Cond.instantiable q.1.cls q.2 ∈ tables_1 ∧ Cond.privateMethod q.1 ∈ tables_1 ∧ Cond.instanceMethod q.1 ∈ tables_1
theorem lw_p0 : lw_okq (⟨"CommitteeBallots$State", "sumFor", "(I)I"⟩, 6) := ⟨⟨by decide +kernel, by decide +kernel⟩, List.mem_of_getElem? (i := 22) (by decide +kernel), List.mem_of_getElem? (i := 442) (by decide +kernel), List.mem_of_getElem? (i := 443) (by decide +kernel)⟩
theorem lw_p1 : lw_okq (⟨"CommitteeBallots$State", "isCarriedBy", "([I)Z"⟩, 6) := ⟨⟨by decide +kernel, by decide +kernel⟩, List.mem_of_getElem? (i := 22) (by decide +kernel), List.mem_of_getElem? (i := 450) (by decide +kernel), List.mem_of_getElem? (i := 451) (by decide +kernel)⟩
theorem lw_p2 : lw_okq (⟨"CommitteeBallots$Comments", "isAhead", "(IILCommitteeBallots$Members;)Z"⟩, 10) := ⟨⟨by decide +kernel, by decide +kernel⟩, List.mem_of_getElem? (i := 137) (by decide +kernel), List.mem_of_getElem? (i := 509) (by decide +kernel), List.mem_of_getElem? (i := 510) (by decide +kernel)⟩
theorem lw_p3 : lw_okq (⟨"CommitteeBallots$State", "bringEdition", "()V"⟩, 6) := ⟨⟨by decide +kernel, by decide +kernel⟩, List.mem_of_getElem? (i := 22) (by decide +kernel), List.mem_of_getElem? (i := 535) (by decide +kernel), List.mem_of_getElem? (i := 536) (by decide +kernel)⟩
theorem lw_p4 : lw_okq (⟨"CommitteeBallots", "firstFault", "()I"⟩, 3) := ⟨⟨by decide +kernel, by decide +kernel⟩, List.mem_of_getElem? (i := 14) (by decide +kernel), List.mem_of_getElem? (i := 602) (by decide +kernel), List.mem_of_getElem? (i := 603) (by decide +kernel)⟩
theorem lw_p5 : lw_okq (⟨"CommitteeBallots$Text", "digitsAt", "(II)I"⟩, 7) := ⟨⟨by decide +kernel, by decide +kernel⟩, List.mem_of_getElem? (i := 240) (by decide +kernel), List.mem_of_getElem? (i := 618) (by decide +kernel), List.mem_of_getElem? (i := 619) (by decide +kernel)⟩
theorem lw_p6 : lw_okq (⟨"CommitteeBallots$Text", "signAt", "(I)C"⟩, 7) := ⟨⟨by decide +kernel, by decide +kernel⟩, List.mem_of_getElem? (i := 240) (by decide +kernel), List.mem_of_getElem? (i := 622) (by decide +kernel), List.mem_of_getElem? (i := 623) (by decide +kernel)⟩
theorem lw_p7 : lw_okq (⟨"CommitteeBallots$Text", "numberAt", "(II)I"⟩, 7) := ⟨⟨by decide +kernel, by decide +kernel⟩, List.mem_of_getElem? (i := 240) (by decide +kernel), List.mem_of_getElem? (i := 626) (by decide +kernel), List.mem_of_getElem? (i := 627) (by decide +kernel)⟩
theorem lw_p8 : lw_okq (⟨"CommitteeBallotsModel", "records", "()V"⟩, 12) := ⟨⟨by decide +kernel, by decide +kernel⟩, List.mem_of_getElem? (i := 634) (by decide +kernel), List.mem_of_getElem? (i := 688) (by decide +kernel), List.mem_of_getElem? (i := 689) (by decide +kernel)⟩
theorem lw_p9 : lw_okq (⟨"CommitteeBallotsModel", "indexOf", "(I)I"⟩, 12) := ⟨⟨by decide +kernel, by decide +kernel⟩, List.mem_of_getElem? (i := 634) (by decide +kernel), List.mem_of_getElem? (i := 702) (by decide +kernel), List.mem_of_getElem? (i := 703) (by decide +kernel)⟩
theorem lw_p10 : lw_okq (⟨"CommitteeBallotsModel", "isMember", "(I)Z"⟩, 12) := ⟨⟨by decide +kernel, by decide +kernel⟩, List.mem_of_getElem? (i := 634) (by decide +kernel), List.mem_of_getElem? (i := 720) (by decide +kernel), List.mem_of_getElem? (i := 721) (by decide +kernel)⟩
theorem lw_p11 : lw_okq (⟨"CommitteeBallotsModel", "isLapsed", "(I)Z"⟩, 12) := ⟨⟨by decide +kernel, by decide +kernel⟩, List.mem_of_getElem? (i := 634) (by decide +kernel), List.mem_of_getElem? (i := 724) (by decide +kernel), List.mem_of_getElem? (i := 725) (by decide +kernel)⟩
theorem lw_p12 : lw_okq (⟨"CommitteeBallotsModel", "commentsOf", "(I)I"⟩, 12) := ⟨⟨by decide +kernel, by decide +kernel⟩, List.mem_of_getElem? (i := 634) (by decide +kernel), List.mem_of_getElem? (i := 728) (by decide +kernel), List.mem_of_getElem? (i := 729) (by decide +kernel)⟩
theorem lw_p13 : lw_okq (⟨"CommitteeBallotsModel", "isEdition", "(I)Z"⟩, 12) := ⟨⟨by decide +kernel, by decide +kernel⟩, List.mem_of_getElem? (i := 634) (by decide +kernel), List.mem_of_getElem? (i := 743) (by decide +kernel), List.mem_of_getElem? (i := 744) (by decide +kernel)⟩
theorem lw_p14 : lw_okq (⟨"CommitteeBallotsModel", "pending", "()I"⟩, 12) := ⟨⟨by decide +kernel, by decide +kernel⟩, List.mem_of_getElem? (i := 634) (by decide +kernel), List.mem_of_getElem? (i := 755) (by decide +kernel), List.mem_of_getElem? (i := 756) (by decide +kernel)⟩
theorem lw_p15 : lw_okq (⟨"CommitteeBallotsModel", "activeWeight", "()I"⟩, 12) := ⟨⟨by decide +kernel, by decide +kernel⟩, List.mem_of_getElem? (i := 634) (by decide +kernel), List.mem_of_getElem? (i := 759) (by decide +kernel), List.mem_of_getElem? (i := 760) (by decide +kernel)⟩
def lw_privs_1 : List (MethodName × Nat) := [(⟨"CommitteeBallots$State", "sumFor", "(I)I"⟩, 6), (⟨"CommitteeBallots$State", "isCarriedBy", "([I)Z"⟩, 6), (⟨"CommitteeBallots$Comments", "isAhead", "(IILCommitteeBallots$Members;)Z"⟩, 10), (⟨"CommitteeBallots$State", "bringEdition", "()V"⟩, 6), (⟨"CommitteeBallots", "firstFault", "()I"⟩, 3), (⟨"CommitteeBallots$Text", "digitsAt", "(II)I"⟩, 7), (⟨"CommitteeBallots$Text", "signAt", "(I)C"⟩, 7), (⟨"CommitteeBallots$Text", "numberAt", "(II)I"⟩, 7), (⟨"CommitteeBallotsModel", "records", "()V"⟩, 12), (⟨"CommitteeBallotsModel", "indexOf", "(I)I"⟩, 12), (⟨"CommitteeBallotsModel", "isMember", "(I)Z"⟩, 12), (⟨"CommitteeBallotsModel", "isLapsed", "(I)Z"⟩, 12), (⟨"CommitteeBallotsModel", "commentsOf", "(I)I"⟩, 12), (⟨"CommitteeBallotsModel", "isEdition", "(I)Z"⟩, 12), (⟨"CommitteeBallotsModel", "pending", "()I"⟩, 12), (⟨"CommitteeBallotsModel", "activeWeight", "()I"⟩, 12)]
theorem lw_r1 : ∀ q ∈ lw_privs_1, lw_okq q := List.forall_mem_cons.mpr ⟨lw_p0, List.forall_mem_cons.mpr ⟨lw_p1, List.forall_mem_cons.mpr ⟨lw_p2, List.forall_mem_cons.mpr ⟨lw_p3, List.forall_mem_cons.mpr ⟨lw_p4, List.forall_mem_cons.mpr ⟨lw_p5, List.forall_mem_cons.mpr ⟨lw_p6, List.forall_mem_cons.mpr ⟨lw_p7, List.forall_mem_cons.mpr ⟨lw_p8, List.forall_mem_cons.mpr ⟨lw_p9, List.forall_mem_cons.mpr ⟨lw_p10, List.forall_mem_cons.mpr ⟨lw_p11, List.forall_mem_cons.mpr ⟨lw_p12, List.forall_mem_cons.mpr ⟨lw_p13, List.forall_mem_cons.mpr ⟨lw_p14, List.forall_mem_cons.mpr ⟨lw_p15, fun _ h => absurd h List.not_mem_nil⟩⟩⟩⟩⟩⟩⟩⟩⟩⟩⟩⟩⟩⟩⟩⟩
theorem lw_p16 : lw_okq (⟨"CommitteeBallotsModel", "ends", "()Z"⟩, 12) := ⟨⟨by decide +kernel, by decide +kernel⟩, List.mem_of_getElem? (i := 634) (by decide +kernel), List.mem_of_getElem? (i := 775) (by decide +kernel), List.mem_of_getElem? (i := 776) (by decide +kernel)⟩
theorem lw_p17 : lw_okq (⟨"CommitteeBallotsModel", "tallies", "()V"⟩, 12) := ⟨⟨by decide +kernel, by decide +kernel⟩, List.mem_of_getElem? (i := 634) (by decide +kernel), List.mem_of_getElem? (i := 779) (by decide +kernel), List.mem_of_getElem? (i := 780) (by decide +kernel)⟩
theorem lw_p18 : lw_okq (⟨"CommitteeBallotsModel", "isTechnical", "(I)Z"⟩, 12) := ⟨⟨by decide +kernel, by decide +kernel⟩, List.mem_of_getElem? (i := 634) (by decide +kernel), List.mem_of_getElem? (i := 783) (by decide +kernel), List.mem_of_getElem? (i := 784) (by decide +kernel)⟩
theorem lw_p19 : lw_okq (⟨"CommitteeBallotsModel", "carries", "(IIII)Z"⟩, 12) := ⟨⟨by decide +kernel, by decide +kernel⟩, List.mem_of_getElem? (i := 634) (by decide +kernel), List.mem_of_getElem? (i := 787) (by decide +kernel), List.mem_of_getElem? (i := 788) (by decide +kernel)⟩
theorem lw_p20 : lw_okq (⟨"CommitteeBallotsModel", "comes", "(IIII)I"⟩, 12) := ⟨⟨by decide +kernel, by decide +kernel⟩, List.mem_of_getElem? (i := 634) (by decide +kernel), List.mem_of_getElem? (i := 803) (by decide +kernel), List.mem_of_getElem? (i := 804) (by decide +kernel)⟩
theorem lw_p21 : lw_okq (⟨"CommitteeBallotsModel", "isComment", "(I)Z"⟩, 12) := ⟨⟨by decide +kernel, by decide +kernel⟩, List.mem_of_getElem? (i := 634) (by decide +kernel), List.mem_of_getElem? (i := 811) (by decide +kernel), List.mem_of_getElem? (i := 812) (by decide +kernel)⟩
theorem lw_p22 : lw_okq (⟨"CommitteeBallotsModel", "isAhead", "(II)Z"⟩, 12) := ⟨⟨by decide +kernel, by decide +kernel⟩, List.mem_of_getElem? (i := 634) (by decide +kernel), List.mem_of_getElem? (i := 819) (by decide +kernel), List.mem_of_getElem? (i := 820) (by decide +kernel)⟩
theorem lw_p23 : lw_okq (⟨"CommitteeBallotsModel", "canGet", "(II)Z"⟩, 12) := ⟨⟨by decide +kernel, by decide +kernel⟩, List.mem_of_getElem? (i := 634) (by decide +kernel), List.mem_of_getElem? (i := 828) (by decide +kernel), List.mem_of_getElem? (i := 829) (by decide +kernel)⟩
theorem lw_p24 : lw_okq (⟨"CommitteeBallotsModel", "comesEdition", "()V"⟩, 12) := ⟨⟨by decide +kernel, by decide +kernel⟩, List.mem_of_getElem? (i := 634) (by decide +kernel), List.mem_of_getElem? (i := 832) (by decide +kernel), List.mem_of_getElem? (i := 833) (by decide +kernel)⟩
theorem lw_p25 : lw_okq (⟨"CommitteeBallotsModel", "giver", "(II)I"⟩, 12) := ⟨⟨by decide +kernel, by decide +kernel⟩, List.mem_of_getElem? (i := 634) (by decide +kernel), List.mem_of_getElem? (i := 836) (by decide +kernel), List.mem_of_getElem? (i := 837) (by decide +kernel)⟩
theorem lw_p26 : lw_okq (⟨"CommitteeBallotsModel", "reopens", "(I)V"⟩, 12) := ⟨⟨by decide +kernel, by decide +kernel⟩, List.mem_of_getElem? (i := 634) (by decide +kernel), List.mem_of_getElem? (i := 844) (by decide +kernel), List.mem_of_getElem? (i := 845) (by decide +kernel)⟩
theorem lw_p27 : lw_okq (⟨"CommitteeBallotsModel", "isChanged", "(II)Z"⟩, 12) := ⟨⟨by decide +kernel, by decide +kernel⟩, List.mem_of_getElem? (i := 634) (by decide +kernel), List.mem_of_getElem? (i := 852) (by decide +kernel), List.mem_of_getElem? (i := 853) (by decide +kernel)⟩
theorem lw_p28 : lw_okq (⟨"CommitteeBallotsModel", "hasFault", "()Z"⟩, 12) := ⟨⟨by decide +kernel, by decide +kernel⟩, List.mem_of_getElem? (i := 634) (by decide +kernel), List.mem_of_getElem? (i := 872) (by decide +kernel), List.mem_of_getElem? (i := 873) (by decide +kernel)⟩
theorem lw_p29 : lw_okq (⟨"CommitteeBallotsModel", "readsComment", "()Z"⟩, 12) := ⟨⟨by decide +kernel, by decide +kernel⟩, List.mem_of_getElem? (i := 634) (by decide +kernel), List.mem_of_getElem? (i := 876) (by decide +kernel), List.mem_of_getElem? (i := 877) (by decide +kernel)⟩
theorem lw_p30 : lw_okq (⟨"CommitteeBallotsModel", "readNumber", "(I)I"⟩, 12) := ⟨⟨by decide +kernel, by decide +kernel⟩, List.mem_of_getElem? (i := 634) (by decide +kernel), List.mem_of_getElem? (i := 880) (by decide +kernel), List.mem_of_getElem? (i := 881) (by decide +kernel)⟩
theorem lw_p31 : lw_okq (⟨"CommitteeBallotsModel", "here", "()I"⟩, 12) := ⟨⟨by decide +kernel, by decide +kernel⟩, List.mem_of_getElem? (i := 634) (by decide +kernel), List.mem_of_getElem? (i := 884) (by decide +kernel), List.mem_of_getElem? (i := 885) (by decide +kernel)⟩
def lw_privs_2 : List (MethodName × Nat) := [(⟨"CommitteeBallotsModel", "ends", "()Z"⟩, 12), (⟨"CommitteeBallotsModel", "tallies", "()V"⟩, 12), (⟨"CommitteeBallotsModel", "isTechnical", "(I)Z"⟩, 12), (⟨"CommitteeBallotsModel", "carries", "(IIII)Z"⟩, 12), (⟨"CommitteeBallotsModel", "comes", "(IIII)I"⟩, 12), (⟨"CommitteeBallotsModel", "isComment", "(I)Z"⟩, 12), (⟨"CommitteeBallotsModel", "isAhead", "(II)Z"⟩, 12), (⟨"CommitteeBallotsModel", "canGet", "(II)Z"⟩, 12), (⟨"CommitteeBallotsModel", "comesEdition", "()V"⟩, 12), (⟨"CommitteeBallotsModel", "giver", "(II)I"⟩, 12), (⟨"CommitteeBallotsModel", "reopens", "(I)V"⟩, 12), (⟨"CommitteeBallotsModel", "isChanged", "(II)Z"⟩, 12), (⟨"CommitteeBallotsModel", "hasFault", "()Z"⟩, 12), (⟨"CommitteeBallotsModel", "readsComment", "()Z"⟩, 12), (⟨"CommitteeBallotsModel", "readNumber", "(I)I"⟩, 12), (⟨"CommitteeBallotsModel", "here", "()I"⟩, 12)]
theorem lw_r2 : ∀ q ∈ lw_privs_2, lw_okq q := List.forall_mem_cons.mpr ⟨lw_p16, List.forall_mem_cons.mpr ⟨lw_p17, List.forall_mem_cons.mpr ⟨lw_p18, List.forall_mem_cons.mpr ⟨lw_p19, List.forall_mem_cons.mpr ⟨lw_p20, List.forall_mem_cons.mpr ⟨lw_p21, List.forall_mem_cons.mpr ⟨lw_p22, List.forall_mem_cons.mpr ⟨lw_p23, List.forall_mem_cons.mpr ⟨lw_p24, List.forall_mem_cons.mpr ⟨lw_p25, List.forall_mem_cons.mpr ⟨lw_p26, List.forall_mem_cons.mpr ⟨lw_p27, List.forall_mem_cons.mpr ⟨lw_p28, List.forall_mem_cons.mpr ⟨lw_p29, List.forall_mem_cons.mpr ⟨lw_p30, List.forall_mem_cons.mpr ⟨lw_p31, fun _ h => absurd h List.not_mem_nil⟩⟩⟩⟩⟩⟩⟩⟩⟩⟩⟩⟩⟩⟩⟩⟩
theorem lw_p32 : lw_okq (⟨"CommitteeBallotsModel", "takes", "(I)Z"⟩, 12) := ⟨⟨by decide +kernel, by decide +kernel⟩, List.mem_of_getElem? (i := 634) (by decide +kernel), List.mem_of_getElem? (i := 888) (by decide +kernel), List.mem_of_getElem? (i := 889) (by decide +kernel)⟩
def lw_privs_3 : List (MethodName × Nat) := [(⟨"CommitteeBallotsModel", "takes", "(I)Z"⟩, 12)]
theorem lw_r3 : ∀ q ∈ lw_privs_3, lw_okq q := List.forall_mem_cons.mpr ⟨lw_p32, fun _ h => absurd h List.not_mem_nil⟩
def lw_privs : List (MethodName × Nat) := lw_privs_1 ++ (lw_privs_2 ++ (lw_privs_3))
def lw_tbl : List Cond := k2_sels lw_privs ++ tables_1
theorem lw_privs_ok : ∀ q ∈ lw_privs, lw_okq q := by
  show ∀ q ∈ lw_privs_1 ++ (lw_privs_2 ++ (lw_privs_3)), lw_okq q
  exact List.forall_mem_append.mpr ⟨lw_r1, List.forall_mem_append.mpr ⟨lw_r2, lw_r3⟩⟩
def RX0 : String := "CommitteeBallots$Ballot"
def TX0 : u_T := fun k => match k with
  | 0 => ("CommitteeBallots$Ballot", "sums", "[I", true)
  | 1 => ("CommitteeBallots$Ballot", "isOpen", "Z", false)
  | 2 => ("CommitteeBallots$Ballot", "broughtEdition", "Z", false)
  | 3 => ("CommitteeBallots$Ballot", "number", "I", false)
  | _ => ("CommitteeBallots$Ballot", "lastDay", "I", false)
def tyX0 : Nat → FieldType := fun k => match k with
  | 0 => .array .int
  | 1 => .boolean
  | 2 => .boolean
  | 3 => .int
  | _ => .int
abbrev wsX00 : List Cond := u_ws RX0 TX0 5
theorem nmX0 : ∀ a, a < 5 → ∀ b, b < 5 → a ≠ b → (TX0 a).2.1 ≠ (TX0 b).2.1 := by decide +kernel
theorem tyX0_ok : ∀ k, k < 5 → parseFieldDescriptor (TX0 k).2.2.1 = some (tyX0 k) := by decide +kernel
abbrev cX0_init : ByteArray := prog_2_method_1_code
def yX0_init : MethodName := ⟨RX0, "<init>", "()V"⟩
abbrev cX0_copyFrom : ByteArray := prog_2_method_2_code
def yX0_copyFrom : MethodName := ⟨RX0, "copyFrom", "(LCommitteeBallots$Ballot;)V"⟩
def RX1 : String := "CommitteeBallots$Comments"
def TX1 : u_T := fun k => match k with
  | 0 => ("CommitteeBallots$Comments", "member", "[I", true)
  | 1 => ("CommitteeBallots$Comments", "place", "[I", true)
  | 2 => ("CommitteeBallots$Comments", "kind", "[I", true)
  | 3 => ("CommitteeBallots$Comments", "proposed", "[I", true)
  | 4 => ("CommitteeBallots$Comments", "standing", "[I", true)
  | 5 => ("CommitteeBallots$Comments", "day", "[I", true)
  | 6 => ("CommitteeBallots$Comments", "gave", "[I", true)
  | 7 => ("CommitteeBallots$Comments", "turn", "[I", true)
  | 8 => ("CommitteeBallots$Comments", "size", "I", false)
  | _ => ("CommitteeBallots$Comments", "turns", "I", false)
def tyX1 : Nat → FieldType := fun k => match k with
  | 0 => .array .int
  | 1 => .array .int
  | 2 => .array .int
  | 3 => .array .int
  | 4 => .array .int
  | 5 => .array .int
  | 6 => .array .int
  | 7 => .array .int
  | 8 => .int
  | _ => .int
abbrev wsX10 : List Cond := u_ws RX1 TX1 10
theorem nmX1 : ∀ a, a < 10 → ∀ b, b < 10 → a ≠ b → (TX1 a).2.1 ≠ (TX1 b).2.1 := by decide +kernel
theorem tyX1_ok : ∀ k, k < 10 → parseFieldDescriptor (TX1 k).2.2.1 = some (tyX1 k) := by decide +kernel
abbrev cX1_init : ByteArray := prog_3_method_1_code
def yX1_init : MethodName := ⟨RX1, "<init>", "()V"⟩
abbrev cX1_copyFrom : ByteArray := prog_3_method_2_code
def yX1_copyFrom : MethodName := ⟨RX1, "copyFrom", "(LCommitteeBallots$Comments;)V"⟩
abbrev cX1_has : ByteArray := prog_3_method_3_code
def yX1_has : MethodName := ⟨RX1, "has", "(I)Z"⟩
abbrev cX1_isResolved : ByteArray := prog_3_method_4_code
def yX1_isResolved : MethodName := ⟨RX1, "isResolved", "(I)Z"⟩
abbrev cX1_gaveValue : ByteArray := prog_3_method_5_code
def yX1_gaveValue : MethodName := ⟨RX1, "gaveValue", "(I)Z"⟩
abbrev cX1_append : ByteArray := prog_3_method_6_code
def yX1_append : MethodName := ⟨RX1, "append", "(IIII)I"⟩
abbrev cX1_makeAllPending : ByteArray := prog_3_method_7_code
def yX1_makeAllPending : MethodName := ⟨RX1, "makeAllPending", "()V"⟩
abbrev cX1_pending : ByteArray := prog_3_method_8_code
def yX1_pending : MethodName := ⟨RX1, "pending", "()I"⟩
abbrev cX1_numberOf : ByteArray := prog_3_method_9_code
def yX1_numberOf : MethodName := ⟨RX1, "numberOf", "(I)I"⟩
abbrev cX1_hasTechnicalOf : ByteArray := prog_3_method_10_code
def yX1_hasTechnicalOf : MethodName := ⟨RX1, "hasTechnicalOf", "(I)Z"⟩
abbrev cX1_firstPending : ByteArray := prog_3_method_11_code
def yX1_firstPending : MethodName := ⟨RX1, "firstPending", "(LCommitteeBallots$Members;)I"⟩
abbrev cX1_isAhead : ByteArray := prog_3_method_12_code
def yX1_isAhead : MethodName := ⟨RX1, "isAhead", "(IILCommitteeBallots$Members;)Z"⟩
abbrev cX1_resolveAs : ByteArray := prog_3_method_13_code
def yX1_resolveAs : MethodName := ⟨RX1, "resolveAs", "(IIII)V"⟩
abbrev cX1_firstBehind : ByteArray := prog_3_method_14_code
def yX1_firstBehind : MethodName := ⟨RX1, "firstBehind", "(II)I"⟩
def RX2 : String := "CommitteeBallots$Document"
def TX2 : u_T := fun k => match k with
  | 0 => ("CommitteeBallots$Document", "number", "[I", true)
  | 1 => ("CommitteeBallots$Document", "present", "[I", true)
  | 2 => ("CommitteeBallots$Document", "atOpening", "[I", true)
  | 3 => ("CommitteeBallots$Document", "ballotBehind", "[I", true)
  | 4 => ("CommitteeBallots$Document", "inEdition", "[I", true)
  | 5 => ("CommitteeBallots$Document", "commentBehind", "[I", true)
  | 6 => ("CommitteeBallots$Document", "size", "I", false)
  | _ => ("CommitteeBallots$Document", "edition", "I", false)
def tyX2 : Nat → FieldType := fun k => match k with
  | 0 => .array .int
  | 1 => .array .int
  | 2 => .array .int
  | 3 => .array .int
  | 4 => .array .int
  | 5 => .array .int
  | 6 => .int
  | _ => .int
abbrev wsX20 : List Cond := u_ws RX2 TX2 8
theorem nmX2 : ∀ a, a < 8 → ∀ b, b < 8 → a ≠ b → (TX2 a).2.1 ≠ (TX2 b).2.1 := by decide +kernel
theorem tyX2_ok : ∀ k, k < 8 → parseFieldDescriptor (TX2 k).2.2.1 = some (tyX2 k) := by decide +kernel
abbrev cX2_init : ByteArray := prog_4_method_1_code
def yX2_init : MethodName := ⟨RX2, "<init>", "()V"⟩
abbrev cX2_copyFrom : ByteArray := prog_4_method_2_code
def yX2_copyFrom : MethodName := ⟨RX2, "copyFrom", "(LCommitteeBallots$Document;)V"⟩
abbrev cX2_slot : ByteArray := prog_4_method_3_code
def yX2_slot : MethodName := ⟨RX2, "slot", "(II)I"⟩
abbrev cX2_hasEdition : ByteArray := prog_4_method_4_code
def yX2_hasEdition : MethodName := ⟨RX2, "hasEdition", "(I)Z"⟩
abbrev cX2_find : ByteArray := prog_4_method_5_code
def yX2_find : MethodName := ⟨RX2, "find", "(I)I"⟩
abbrev cX2_insert : ByteArray := prog_4_method_6_code
def yX2_insert : MethodName := ⟨RX2, "insert", "(II)V"⟩
abbrev cX2_canGet : ByteArray := prog_4_method_7_code
def yX2_canGet : MethodName := ⟨RX2, "canGet", "(II)Z"⟩
abbrev cX2_isChanged : ByteArray := prog_4_method_8_code
def yX2_isChanged : MethodName := ⟨RX2, "isChanged", "()Z"⟩
abbrev cX2_differs : ByteArray := prog_4_method_9_code
def yX2_differs : MethodName := ⟨RX2, "differs", "(II)Z"⟩
abbrev cX2_changesOf : ByteArray := prog_4_method_10_code
def yX2_changesOf : MethodName := ⟨RX2, "changesOf", "(I)I"⟩
abbrev cX2_placeOfChange : ByteArray := prog_4_method_11_code
def yX2_placeOfChange : MethodName := ⟨RX2, "placeOfChange", "(II)I"⟩
def RX3 : String := "CommitteeBallots$History"
def TX3 : u_T := fun k => match k with
  | 0 => ("CommitteeBallots$History", "states", "[LCommitteeBallots$State;", true)
  | 1 => ("CommitteeBallots$History", "oldest", "I", false)
  | _ => ("CommitteeBallots$History", "size", "I", false)
def tyX3 : Nat → FieldType := fun k => match k with
  | 0 => .array (.object "CommitteeBallots$State")
  | 1 => .int
  | _ => .int
abbrev wsX30 : List Cond := u_ws RX3 TX3 3
theorem nmX3 : ∀ a, a < 3 → ∀ b, b < 3 → a ≠ b → (TX3 a).2.1 ≠ (TX3 b).2.1 := by decide +kernel
theorem tyX3_ok : ∀ k, k < 3 → parseFieldDescriptor (TX3 k).2.2.1 = some (tyX3 k) := by decide +kernel
abbrev cX3_init : ByteArray := prog_5_method_1_code
def yX3_init : MethodName := ⟨RX3, "<init>", "()V"⟩
abbrev cX3_keep : ByteArray := prog_5_method_2_code
def yX3_keep : MethodName := ⟨RX3, "keep", "(LCommitteeBallots$State;)V"⟩
abbrev cX3_restore : ByteArray := prog_5_method_3_code
def yX3_restore : MethodName := ⟨RX3, "restore", "(LCommitteeBallots$State;)V"⟩
def RX4 : String := "CommitteeBallots$Members"
def TX4 : u_T := fun k => match k with
  | 0 => ("CommitteeBallots$Members", "weight", "[I", true)
  | 1 => ("CommitteeBallots$Members", "misses", "[I", true)
  | 2 => ("CommitteeBallots$Members", "given", "[I", true)
  | 3 => ("CommitteeBallots$Members", "ballotsVoted", "[I", true)
  | _ => ("CommitteeBallots$Members", "size", "I", false)
def tyX4 : Nat → FieldType := fun k => match k with
  | 0 => .array .int
  | 1 => .array .int
  | 2 => .array .int
  | 3 => .array .int
  | _ => .int
abbrev wsX40 : List Cond := u_ws RX4 TX4 5
theorem nmX4 : ∀ a, a < 5 → ∀ b, b < 5 → a ≠ b → (TX4 a).2.1 ≠ (TX4 b).2.1 := by decide +kernel
theorem tyX4_ok : ∀ k, k < 5 → parseFieldDescriptor (TX4 k).2.2.1 = some (tyX4 k) := by decide +kernel
abbrev cX4_init : ByteArray := prog_6_method_1_code
def yX4_init : MethodName := ⟨RX4, "<init>", "()V"⟩
abbrev cX4_copyFrom : ByteArray := prog_6_method_2_code
def yX4_copyFrom : MethodName := ⟨RX4, "copyFrom", "(LCommitteeBallots$Members;)V"⟩
abbrev cX4_has : ByteArray := prog_6_method_3_code
def yX4_has : MethodName := ⟨RX4, "has", "(I)Z"⟩
abbrev cX4_hasVoted : ByteArray := prog_6_method_4_code
def yX4_hasVoted : MethodName := ⟨RX4, "hasVoted", "(I)Z"⟩
abbrev cX4_isSet : ByteArray := prog_6_method_5_code
def yX4_isSet : MethodName := ⟨RX4, "isSet", "(I)Z"⟩
abbrev cX4_append : ByteArray := prog_6_method_6_code
def yX4_append : MethodName := ⟨RX4, "append", "(I)I"⟩
abbrev cX4_voters : ByteArray := prog_6_method_7_code
def yX4_voters : MethodName := ⟨RX4, "voters", "()I"⟩
abbrev cX4_noteMisses : ByteArray := prog_6_method_8_code
def yX4_noteMisses : MethodName := ⟨RX4, "noteMisses", "()V"⟩
def RX5 : String := "CommitteeBallots$State"
def TX5 : u_T := fun k => match k with
  | 0 => ("CommitteeBallots$State", "members", "LCommitteeBallots$Members;", true)
  | 1 => ("CommitteeBallots$State", "document", "LCommitteeBallots$Document;", true)
  | 2 => ("CommitteeBallots$State", "ballot", "LCommitteeBallots$Ballot;", true)
  | 3 => ("CommitteeBallots$State", "comments", "LCommitteeBallots$Comments;", true)
  | 4 => ("CommitteeBallots$State", "settings", "[I", true)
  | _ => ("CommitteeBallots$State", "today", "I", false)
def tyX5 : Nat → FieldType := fun k => match k with
  | 0 => .object "CommitteeBallots$Members"
  | 1 => .object "CommitteeBallots$Document"
  | 2 => .object "CommitteeBallots$Ballot"
  | 3 => .object "CommitteeBallots$Comments"
  | 4 => .array .int
  | _ => .int
abbrev wsX50 : List Cond := u_ws RX5 TX5 6
theorem nmX5 : ∀ a, a < 6 → ∀ b, b < 6 → a ≠ b → (TX5 a).2.1 ≠ (TX5 b).2.1 := by decide +kernel
theorem tyX5_ok : ∀ k, k < 6 → parseFieldDescriptor (TX5 k).2.2.1 = some (tyX5 k) := by decide +kernel
abbrev cX5_init : ByteArray := prog_7_method_1_code
def yX5_init : MethodName := ⟨RX5, "<init>", "()V"⟩
abbrev cX5_copyFrom : ByteArray := prog_7_method_2_code
def yX5_copyFrom : MethodName := ⟨RX5, "copyFrom", "(LCommitteeBallots$State;)V"⟩
abbrev cX5_isLapsed : ByteArray := prog_7_method_3_code
def yX5_isLapsed : MethodName := ⟨RX5, "isLapsed", "(I)Z"⟩
abbrev cX5_activeWeight : ByteArray := prog_7_method_4_code
def yX5_activeWeight : MethodName := ⟨RX5, "activeWeight", "()I"⟩
abbrev cX5_activeWeightIn : ByteArray := prog_7_method_5_code
def yX5_activeWeightIn : MethodName := ⟨RX5, "activeWeightIn", "(I)I"⟩
abbrev cX5_openBallot : ByteArray := prog_7_method_6_code
def yX5_openBallot : MethodName := ⟨RX5, "openBallot", "()V"⟩
abbrev cX5_countVotes : ByteArray := prog_7_method_7_code
def yX5_countVotes : MethodName := ⟨RX5, "countVotes", "()V"⟩
abbrev cX5_sumFor : ByteArray := prog_7_method_8_code
def yX5_sumFor : MethodName := ⟨RX5, "sumFor", "(I)I"⟩
abbrev cX5_isCarriedBy : ByteArray := prog_7_method_9_code
def yX5_isCarriedBy : MethodName := ⟨RX5, "isCarriedBy", "([I)Z"⟩
abbrev cX5_endBallot : ByteArray := prog_7_method_10_code
def yX5_endBallot : MethodName := ⟨RX5, "endBallot", "()V"⟩
abbrev cX5_settle : ByteArray := prog_7_method_11_code
def yX5_settle : MethodName := ⟨RX5, "settle", "(III)V"⟩
abbrev cX5_bringEdition : ByteArray := prog_7_method_12_code
def yX5_bringEdition : MethodName := ⟨RX5, "bringEdition", "()V"⟩
abbrev cX5_reopen : ByteArray := prog_7_method_13_code
def yX5_reopen : MethodName := ⟨RX5, "reopen", "(I)V"⟩
def RX6 : String := "CommitteeBallots$Text"
def TX6 : u_T := fun k => match k with
  | 0 => ("CommitteeBallots$Text", "signs", "[C", true)
  | 1 => ("CommitteeBallots$Text", "length", "I", false)
  | 2 => ("CommitteeBallots$Text", "start", "I", false)
  | 3 => ("CommitteeBallots$Text", "end", "I", false)
  | 4 => ("CommitteeBallots$Text", "clause", "I", false)
  | 5 => ("CommitteeBallots$Text", "kind", "I", false)
  | _ => ("CommitteeBallots$Text", "proposed", "I", false)
def tyX6 : Nat → FieldType := fun k => match k with
  | 0 => .array .char
  | 1 => .int
  | 2 => .int
  | 3 => .int
  | 4 => .int
  | 5 => .int
  | _ => .int
abbrev wsX60 : List Cond := u_ws RX6 TX6 7
theorem nmX6 : ∀ a, a < 7 → ∀ b, b < 7 → a ≠ b → (TX6 a).2.1 ≠ (TX6 b).2.1 := by decide +kernel
theorem tyX6_ok : ∀ k, k < 7 → parseFieldDescriptor (TX6 k).2.2.1 = some (tyX6 k) := by decide +kernel
abbrev cX6_init : ByteArray := prog_8_method_1_code
def yX6_init : MethodName := ⟨RX6, "<init>", "()V"⟩
abbrev cX6_append : ByteArray := prog_8_method_2_code
def yX6_append : MethodName := ⟨RX6, "append", "(C)V"⟩
abbrev cX6_rewind : ByteArray := prog_8_method_3_code
def yX6_rewind : MethodName := ⟨RX6, "rewind", "()V"⟩
abbrev cX6_isAtEnd : ByteArray := prog_8_method_4_code
def yX6_isAtEnd : MethodName := ⟨RX6, "isAtEnd", "()Z"⟩
abbrev cX6_readComment : ByteArray := prog_8_method_5_code
def yX6_readComment : MethodName := ⟨RX6, "readComment", "()Z"⟩
abbrev cX6_signAt : ByteArray := prog_8_method_6_code
def yX6_signAt : MethodName := ⟨RX6, "signAt", "(I)C"⟩
abbrev cX6_digitsAt : ByteArray := prog_8_method_7_code
def yX6_digitsAt : MethodName := ⟨RX6, "digitsAt", "(II)I"⟩
abbrev cX6_numberAt : ByteArray := prog_8_method_8_code
def yX6_numberAt : MethodName := ⟨RX6, "numberAt", "(II)I"⟩
def RX7 : String := "CommitteeBallots"
def TX7 : u_T := fun k => match k with
  | 0 => ("CommitteeBallots", "now", "LCommitteeBallots$State;", true)
  | 1 => ("CommitteeBallots", "history", "LCommitteeBallots$History;", true)
  | _ => ("CommitteeBallots", "text", "LCommitteeBallots$Text;", true)
def tyX7 : Nat → FieldType := fun k => match k with
  | 0 => .object "CommitteeBallots$State"
  | 1 => .object "CommitteeBallots$History"
  | _ => .object "CommitteeBallots$Text"
abbrev wsX70 : List Cond := u_ws RX7 TX7 3
theorem nmX7 : ∀ a, a < 3 → ∀ b, b < 3 → a ≠ b → (TX7 a).2.1 ≠ (TX7 b).2.1 := by decide +kernel
theorem tyX7_ok : ∀ k, k < 3 → parseFieldDescriptor (TX7 k).2.2.1 = some (tyX7 k) := by decide +kernel
abbrev cX7_init : ByteArray := prog_1_method_1_code
def yX7_init : MethodName := ⟨RX7, "<init>", "()V"⟩
abbrev cX7_addMember : ByteArray := prog_1_method_2_code
def yX7_addMember : MethodName := ⟨RX7, "addMember", "(I)I"⟩
abbrev cX7_addClause : ByteArray := prog_1_method_3_code
def yX7_addClause : MethodName := ⟨RX7, "addClause", "(II)I"⟩
abbrev cX7_set : ByteArray := prog_1_method_4_code
def yX7_set : MethodName := ⟨RX7, "set", "(II)I"⟩
abbrev cX7_member : ByteArray := prog_1_method_5_code
def yX7_member : MethodName := ⟨RX7, "member", "(II)I"⟩
abbrev cX7_value : ByteArray := prog_1_method_6_code
def yX7_value : MethodName := ⟨RX7, "value", "(I)I"⟩
abbrev cX7_valueIn : ByteArray := prog_1_method_7_code
def yX7_valueIn : MethodName := ⟨RX7, "valueIn", "(II)I"⟩
abbrev cX7_clause : ByteArray := prog_1_method_8_code
def yX7_clause : MethodName := ⟨RX7, "clause", "(I)I"⟩
abbrev cX7_count : ByteArray := prog_1_method_9_code
def yX7_count : MethodName := ⟨RX7, "count", "(I)I"⟩
abbrev cX7_open : ByteArray := prog_1_method_10_code
def yX7_open : MethodName := ⟨RX7, "open", "()I"⟩
abbrev cX7_vote : ByteArray := prog_1_method_11_code
def yX7_vote : MethodName := ⟨RX7, "vote", "(II)I"⟩
abbrev cX7_pass : ByteArray := prog_1_method_12_code
def yX7_pass : MethodName := ⟨RX7, "pass", "(I)I"⟩
abbrev cX7_tally : ByteArray := prog_1_method_13_code
def yX7_tally : MethodName := ⟨RX7, "tally", "(I)I"⟩
abbrev cX7_lacking : ByteArray := prog_1_method_14_code
def yX7_lacking : MethodName := ⟨RX7, "lacking", "()I"⟩
abbrev cX7_comment : ByteArray := prog_1_method_15_code
def yX7_comment : MethodName := ⟨RX7, "comment", "(IIII)I"⟩
abbrev cX7_told : ByteArray := prog_1_method_16_code
def yX7_told : MethodName := ⟨RX7, "told", "(II)I"⟩
abbrev cX7_next : ByteArray := prog_1_method_17_code
def yX7_next : MethodName := ⟨RX7, "next", "()I"⟩
abbrev cX7_resolve : ByteArray := prog_1_method_18_code
def yX7_resolve : MethodName := ⟨RX7, "resolve", "(II)I"⟩
abbrev cX7_appeal : ByteArray := prog_1_method_19_code
def yX7_appeal : MethodName := ⟨RX7, "appeal", "(III)I"⟩
abbrev cX7_changes : ByteArray := prog_1_method_20_code
def yX7_changes : MethodName := ⟨RX7, "changes", "(I)I"⟩
abbrev cX7_change : ByteArray := prog_1_method_21_code
def yX7_change : MethodName := ⟨RX7, "change", "(III)I"⟩
abbrev cX7_undo : ByteArray := prog_1_method_22_code
def yX7_undo : MethodName := ⟨RX7, "undo", "()I"⟩
abbrev cX7_type : ByteArray := prog_1_method_23_code
def yX7_type : MethodName := ⟨RX7, "type", "(I)I"⟩
abbrev cX7_clearText : ByteArray := prog_1_method_24_code
def yX7_clearText : MethodName := ⟨RX7, "clearText", "()I"⟩
abbrev cX7_fault : ByteArray := prog_1_method_25_code
def yX7_fault : MethodName := ⟨RX7, "fault", "(I)I"⟩
abbrev cX7_enter : ByteArray := prog_1_method_26_code
def yX7_enter : MethodName := ⟨RX7, "enter", "(I)I"⟩
abbrev cX7_firstFault : ByteArray := prog_1_method_27_code
def yX7_firstFault : MethodName := ⟨RX7, "firstFault", "()I"⟩
abbrev cX7_isValue : ByteArray := prog_1_method_28_code
def yX7_isValue : MethodName := ⟨RX7, "isValue", "(I)Z"⟩
abbrev cX7_dividedUp : ByteArray := prog_1_method_29_code
def yX7_dividedUp : MethodName := ⟨RX7, "dividedUp", "(II)I"⟩
abbrev cX7_copyAll : ByteArray := prog_1_method_30_code
def yX7_copyAll : MethodName := ⟨RX7, "copyAll", "([I[I)V"⟩
def RX8 : String := "CommitteeBallotsModel"
def TX8 : u_T := fun k => match k with
  | 0 => ("CommitteeBallotsModel", "now", "[I", true)
  | 1 => ("CommitteeBallotsModel", "past", "[I", true)
  | 2 => ("CommitteeBallotsModel", "saved", "I", false)
  | 3 => ("CommitteeBallotsModel", "text", "[I", true)
  | 4 => ("CommitteeBallotsModel", "length", "I", false)
  | 5 => ("CommitteeBallotsModel", "spot", "I", false)
  | 6 => ("CommitteeBallotsModel", "readClause", "I", false)
  | 7 => ("CommitteeBallotsModel", "readKind", "I", false)
  | 8 => ("CommitteeBallotsModel", "readValue", "I", false)
  | 9 => ("CommitteeBallotsModel", "faultAt", "I", false)
  | 10 => ("CommitteeBallotsModel", "faultWhy", "I", false)
  | _ => ("CommitteeBallotsModel", "readMany", "I", false)
def tyX8 : Nat → FieldType := fun k => match k with
  | 0 => .array .int
  | 1 => .array .int
  | 2 => .int
  | 3 => .array .int
  | 4 => .int
  | 5 => .int
  | 6 => .int
  | 7 => .int
  | 8 => .int
  | 9 => .int
  | 10 => .int
  | _ => .int
abbrev wsX80 : List Cond := u_ws RX8 TX8 12
theorem nmX8 : ∀ a, a < 12 → ∀ b, b < 12 → a ≠ b → (TX8 a).2.1 ≠ (TX8 b).2.1 := by decide +kernel
theorem tyX8_ok : ∀ k, k < 12 → parseFieldDescriptor (TX8 k).2.2.1 = some (tyX8 k) := by decide +kernel
abbrev cX8_init : ByteArray := prog_10_method_1_code
def yX8_init : MethodName := ⟨RX8, "<init>", "()V"⟩
abbrev cX8_in : ByteArray := prog_10_method_2_code
def yX8_in : MethodName := ⟨RX8, "in", "(III)Z"⟩
abbrev cX8_records : ByteArray := prog_10_method_3_code
def yX8_records : MethodName := ⟨RX8, "records", "()V"⟩
abbrev cX8_undo : ByteArray := prog_10_method_4_code
def yX8_undo : MethodName := ⟨RX8, "undo", "()I"⟩
abbrev cX8_isMember : ByteArray := prog_10_method_5_code
def yX8_isMember : MethodName := ⟨RX8, "isMember", "(I)Z"⟩
abbrev cX8_memberAt : ByteArray := prog_10_method_6_code
def yX8_memberAt : MethodName := ⟨RX8, "memberAt", "(I)I"⟩
abbrev cX8_isLapsed : ByteArray := prog_10_method_7_code
def yX8_isLapsed : MethodName := ⟨RX8, "isLapsed", "(I)Z"⟩
abbrev cX8_addMember : ByteArray := prog_10_method_8_code
def yX8_addMember : MethodName := ⟨RX8, "addMember", "(I)I"⟩
abbrev cX8_clauseAt : ByteArray := prog_10_method_9_code
def yX8_clauseAt : MethodName := ⟨RX8, "clauseAt", "(I)I"⟩
abbrev cX8_indexOf : ByteArray := prog_10_method_10_code
def yX8_indexOf : MethodName := ⟨RX8, "indexOf", "(I)I"⟩
abbrev cX8_isValue : ByteArray := prog_10_method_11_code
def yX8_isValue : MethodName := ⟨RX8, "isValue", "(I)Z"⟩
abbrev cX8_addClause : ByteArray := prog_10_method_12_code
def yX8_addClause : MethodName := ⟨RX8, "addClause", "(II)I"⟩
abbrev cX8_isSetting : ByteArray := prog_10_method_13_code
def yX8_isSetting : MethodName := ⟨RX8, "isSetting", "(II)Z"⟩
abbrev cX8_set : ByteArray := prog_10_method_14_code
def yX8_set : MethodName := ⟨RX8, "set", "(II)I"⟩
abbrev cX8_commentsOf : ByteArray := prog_10_method_15_code
def yX8_commentsOf : MethodName := ⟨RX8, "commentsOf", "(I)I"⟩
abbrev cX8_member : ByteArray := prog_10_method_16_code
def yX8_member : MethodName := ⟨RX8, "member", "(II)I"⟩
abbrev cX8_value : ByteArray := prog_10_method_17_code
def yX8_value : MethodName := ⟨RX8, "value", "(I)I"⟩
abbrev cX8_isEdition : ByteArray := prog_10_method_18_code
def yX8_isEdition : MethodName := ⟨RX8, "isEdition", "(I)Z"⟩
abbrev cX8_valueIn : ByteArray := prog_10_method_19_code
def yX8_valueIn : MethodName := ⟨RX8, "valueIn", "(II)I"⟩
abbrev cX8_clause : ByteArray := prog_10_method_20_code
def yX8_clause : MethodName := ⟨RX8, "clause", "(I)I"⟩
abbrev cX8_activeWeight : ByteArray := prog_10_method_21_code
def yX8_activeWeight : MethodName := ⟨RX8, "activeWeight", "()I"⟩
abbrev cX8_pending : ByteArray := prog_10_method_22_code
def yX8_pending : MethodName := ⟨RX8, "pending", "()I"⟩
abbrev cX8_count : ByteArray := prog_10_method_23_code
def yX8_count : MethodName := ⟨RX8, "count", "(I)I"⟩
abbrev cX8_open : ByteArray := prog_10_method_24_code
def yX8_open : MethodName := ⟨RX8, "open", "()I"⟩
abbrev cX8_vote : ByteArray := prog_10_method_25_code
def yX8_vote : MethodName := ⟨RX8, "vote", "(II)I"⟩
abbrev cX8_isTechnical : ByteArray := prog_10_method_26_code
def yX8_isTechnical : MethodName := ⟨RX8, "isTechnical", "(I)Z"⟩
abbrev cX8_carries : ByteArray := prog_10_method_27_code
def yX8_carries : MethodName := ⟨RX8, "carries", "(IIII)Z"⟩
abbrev cX8_tallies : ByteArray := prog_10_method_28_code
def yX8_tallies : MethodName := ⟨RX8, "tallies", "()V"⟩
abbrev cX8_ends : ByteArray := prog_10_method_29_code
def yX8_ends : MethodName := ⟨RX8, "ends", "()Z"⟩
abbrev cX8_pass : ByteArray := prog_10_method_30_code
def yX8_pass : MethodName := ⟨RX8, "pass", "(I)I"⟩
abbrev cX8_tally : ByteArray := prog_10_method_31_code
def yX8_tally : MethodName := ⟨RX8, "tally", "(I)I"⟩
abbrev cX8_lacking : ByteArray := prog_10_method_32_code
def yX8_lacking : MethodName := ⟨RX8, "lacking", "()I"⟩
abbrev cX8_commentAt : ByteArray := prog_10_method_33_code
def yX8_commentAt : MethodName := ⟨RX8, "commentAt", "(I)I"⟩
abbrev cX8_isComment : ByteArray := prog_10_method_34_code
def yX8_isComment : MethodName := ⟨RX8, "isComment", "(I)Z"⟩
abbrev cX8_comes : ByteArray := prog_10_method_35_code
def yX8_comes : MethodName := ⟨RX8, "comes", "(IIII)I"⟩
abbrev cX8_comment : ByteArray := prog_10_method_36_code
def yX8_comment : MethodName := ⟨RX8, "comment", "(IIII)I"⟩
abbrev cX8_told : ByteArray := prog_10_method_37_code
def yX8_told : MethodName := ⟨RX8, "told", "(II)I"⟩
abbrev cX8_isAhead : ByteArray := prog_10_method_38_code
def yX8_isAhead : MethodName := ⟨RX8, "isAhead", "(II)Z"⟩
abbrev cX8_next : ByteArray := prog_10_method_39_code
def yX8_next : MethodName := ⟨RX8, "next", "()I"⟩
abbrev cX8_canGet : ByteArray := prog_10_method_40_code
def yX8_canGet : MethodName := ⟨RX8, "canGet", "(II)Z"⟩
abbrev cX8_giver : ByteArray := prog_10_method_41_code
def yX8_giver : MethodName := ⟨RX8, "giver", "(II)I"⟩
abbrev cX8_comesEdition : ByteArray := prog_10_method_42_code
def yX8_comesEdition : MethodName := ⟨RX8, "comesEdition", "()V"⟩
abbrev cX8_resolve : ByteArray := prog_10_method_43_code
def yX8_resolve : MethodName := ⟨RX8, "resolve", "(II)I"⟩
abbrev cX8_reopens : ByteArray := prog_10_method_44_code
def yX8_reopens : MethodName := ⟨RX8, "reopens", "(I)V"⟩
abbrev cX8_appeal : ByteArray := prog_10_method_45_code
def yX8_appeal : MethodName := ⟨RX8, "appeal", "(III)I"⟩
abbrev cX8_isChanged : ByteArray := prog_10_method_46_code
def yX8_isChanged : MethodName := ⟨RX8, "isChanged", "(II)Z"⟩
abbrev cX8_changes : ByteArray := prog_10_method_47_code
def yX8_changes : MethodName := ⟨RX8, "changes", "(I)I"⟩
abbrev cX8_change : ByteArray := prog_10_method_48_code
def yX8_change : MethodName := ⟨RX8, "change", "(III)I"⟩
abbrev cX8_type : ByteArray := prog_10_method_49_code
def yX8_type : MethodName := ⟨RX8, "type", "(I)I"⟩
abbrev cX8_clearText : ByteArray := prog_10_method_50_code
def yX8_clearText : MethodName := ⟨RX8, "clearText", "()I"⟩
abbrev cX8_here : ByteArray := prog_10_method_51_code
def yX8_here : MethodName := ⟨RX8, "here", "()I"⟩
abbrev cX8_readNumber : ByteArray := prog_10_method_52_code
def yX8_readNumber : MethodName := ⟨RX8, "readNumber", "(I)I"⟩
abbrev cX8_takes : ByteArray := prog_10_method_53_code
def yX8_takes : MethodName := ⟨RX8, "takes", "(I)Z"⟩
abbrev cX8_readsComment : ByteArray := prog_10_method_54_code
def yX8_readsComment : MethodName := ⟨RX8, "readsComment", "()Z"⟩
abbrev cX8_hasFault : ByteArray := prog_10_method_55_code
def yX8_hasFault : MethodName := ⟨RX8, "hasFault", "()Z"⟩
abbrev cX8_fault : ByteArray := prog_10_method_56_code
def yX8_fault : MethodName := ⟨RX8, "fault", "(I)I"⟩
abbrev cX8_enter : ByteArray := prog_10_method_57_code
def yX8_enter : MethodName := ⟨RX8, "enter", "(I)I"⟩
def RJx8e188 : String := "java/lang/Cloneable"
def TJx8e188 : u_T := fun k => match k with
  | _ => ("", "", "", false)
def tyJx8e188 : Nat → FieldType := fun k => match k with
  | _ => .int
abbrev wsJx8e1880 : List Cond := u_ws RJx8e188 TJx8e188 0
theorem nmJx8e188 : ∀ a, a < 0 → ∀ b, b < 0 → a ≠ b → (TJx8e188 a).2.1 ≠ (TJx8e188 b).2.1 := by decide +kernel
theorem tyJx8e188_ok : ∀ k, k < 0 → parseFieldDescriptor (TJx8e188 k).2.2.1 = some (tyJx8e188 k) := by decide +kernel
def RJ9 : String := "java/lang/Math"
def TJ9 : u_T := fun k => match k with
  | _ => ("", "", "", false)
def tyJ9 : Nat → FieldType := fun k => match k with
  | _ => .int
abbrev wsJ90 : List Cond := u_ws RJ9 TJ9 0
theorem nmJ9 : ∀ a, a < 0 → ∀ b, b < 0 → a ≠ b → (TJ9 a).2.1 ≠ (TJ9 b).2.1 := by decide +kernel
theorem tyJ9_ok : ∀ k, k < 0 → parseFieldDescriptor (TJ9 k).2.2.1 = some (tyJ9 k) := by decide +kernel
abbrev cJ9_max_7cf53 : ByteArray := prog_12_method_65_code
def yJ9_max_7cf53 : MethodName := ⟨RJ9, "max", "(II)I"⟩
abbrev cJ9_min_7cf53 : ByteArray := prog_12_method_69_code
def yJ9_min_7cf53 : MethodName := ⟨RJ9, "min", "(II)I"⟩
def RJ10 : String := "java/lang/System"
def TJ10 : u_T := fun k => match k with
  | _ => ("", "", "", false)
def tyJ10 : Nat → FieldType := fun k => match k with
  | _ => .int
abbrev wsJ100 : List Cond := u_ws RJ10 TJ10 0
theorem nmJ10 : ∀ a, a < 0 → ∀ b, b < 0 → a ≠ b → (TJ10 a).2.1 ≠ (TJ10 b).2.1 := by decide +kernel
theorem tyJ10_ok : ∀ k, k < 0 → parseFieldDescriptor (TJ10 k).2.2.1 = some (tyJ10 k) := by decide +kernel
def RJ7 : String := "java/util/Arrays"
def TJ7 : u_T := fun k => match k with
  | _ => ("", "", "", false)
def tyJ7 : Nat → FieldType := fun k => match k with
  | _ => .int
abbrev wsJ70 : List Cond := u_ws RJ7 TJ7 0
theorem nmJ7 : ∀ a, a < 0 → ∀ b, b < 0 → a ≠ b → (TJ7 a).2.1 ≠ (TJ7 b).2.1 := by decide +kernel
theorem tyJ7_ok : ∀ k, k < 0 → parseFieldDescriptor (TJ7 k).2.2.1 = some (tyJ7 k) := by decide +kernel
abbrev cJ7_fill_53178 : ByteArray := prog_14_method_103_code
def yJ7_fill_53178 : MethodName := ⟨RJ7, "fill", "([II)V"⟩
def RL : String := "CommitteeBallotsLaw"
abbrev cL_law : ByteArray := code
def yL_law : MethodName := ⟨RL, "law", "([I)Z"⟩
abbrev vwCl : List vw_C := [(RX0, TX0, 5), (RX1, TX1, 10), (RX2, TX2, 8), (RX3, TX3, 3), (RX4, TX4, 5), (RX5, TX5, 6), (RX6, TX6, 7), (RX7, TX7, 3), (RX8, TX8, 12)]
end
section
def gW : List Cond := lw_tbl.filter goodWord
theorem gW_hts {args : Array Value} {s : State} (h : ∀ w ∈ lw_tbl, w.before args s = true) : ∀ w ∈ gW, w.before args s = true := fun w hw => h w (List.mem_filter.mp hw).1
theorem gW_1 {w : Cond} (h : w ∈ tables_1_1) (hg : goodWord w = true) : w ∈ gW := List.mem_filter.mpr ⟨List.mem_append_right _ (List.mem_append_left _ h), hg⟩
theorem gW_2 {w : Cond} (h : w ∈ tables_1_2) (hg : goodWord w = true) : w ∈ gW := List.mem_filter.mpr ⟨List.mem_append_right _ (List.mem_append_right _ (List.mem_append_left _ h)), hg⟩
theorem gW_3 {w : Cond} (h : w ∈ tables_1_3) (hg : goodWord w = true) : w ∈ gW := List.mem_filter.mpr ⟨List.mem_append_right _ (List.mem_append_right _ (List.mem_append_right _ (List.mem_append_left _ h))), hg⟩
theorem gW_4 {w : Cond} (h : w ∈ tables_1_4) (hg : goodWord w = true) : w ∈ gW := List.mem_filter.mpr ⟨List.mem_append_right _ (List.mem_append_right _ (List.mem_append_right _ (List.mem_append_right _ h))), hg⟩
theorem gW_p {q : MethodName × Nat} (h : q ∈ lw_privs) : Cond.selects q.1.cls q.1 q.1 ∈ gW := List.mem_filter.mpr ⟨List.mem_append_left _ (List.mem_map.mpr ⟨q, h, rfl⟩), rfl⟩
theorem gW_p1 {q : MethodName × Nat} (h : q ∈ lw_privs_1) : Cond.selects q.1.cls q.1 q.1 ∈ gW := gW_p (List.mem_append_left _ h)
theorem gW_p2 {q : MethodName × Nat} (h : q ∈ lw_privs_2) : Cond.selects q.1.cls q.1 q.1 ∈ gW := gW_p (List.mem_append_right _ (List.mem_append_left _ h))
theorem gW_p3 {q : MethodName × Nat} (h : q ∈ lw_privs_3) : Cond.selects q.1.cls q.1 q.1 ∈ gW := gW_p (List.mem_append_right _ (List.mem_append_right _ h))
theorem gW_good : GoodIn gW gW := fun w hw => ⟨hw, good_of_word (List.mem_filter.mp hw).2⟩
def gC (y : MethodName) (cc : ByteArray) (n : Nat) (ret : Option FieldType) : List Cond := .code y cc n ret :: gW
theorem gC_good {y z : MethodName} {cy cz : ByteArray} {ny nz : Nat} {ry rz : Option FieldType} (h : Cond.code z cz nz rz ∈ gW) : GoodIn (gC y cy ny ry) (gC z cz nz rz) := by
  intro w hw
  have hw' : w ∈ gW := by
    rcases List.mem_cons.mp hw with rfl | hw
    · exact h
    · exact hw
  exact ⟨List.mem_cons_of_mem _ hw', (gW_good w hw').2⟩
theorem gC_goodW {z : MethodName} {cz : ByteArray} {nz : Nat} {rz : Option FieldType} (h : Cond.code z cz nz rz ∈ gW) : GoodIn gW (gC z cz nz rz) := by
  intro w hw
  have hw' : w ∈ gW := by
    rcases List.mem_cons.mp hw with rfl | hw
    · exact h
    · exact hw
  exact ⟨hw', (gW_good w hw').2⟩

theorem wi_L : Cond.initialized RL ∈ gW := gW_1 (List.mem_of_getElem? (i := 0) rfl) rfl
theorem wi_X7 : Cond.initialized RX7 ∈ gW := gW_1 (List.mem_of_getElem? (i := 1) rfl) rfl
theorem wi_X5 : Cond.initialized RX5 ∈ gW := gW_1 (List.mem_of_getElem? (i := 2) rfl) rfl
theorem wi_X4 : Cond.initialized RX4 ∈ gW := gW_1 (List.mem_of_getElem? (i := 3) rfl) rfl
theorem wi_X2 : Cond.initialized RX2 ∈ gW := gW_1 (List.mem_of_getElem? (i := 4) rfl) rfl
theorem wi_X0 : Cond.initialized RX0 ∈ gW := gW_1 (List.mem_of_getElem? (i := 5) rfl) rfl
theorem wi_X1 : Cond.initialized RX1 ∈ gW := gW_1 (List.mem_of_getElem? (i := 6) rfl) rfl
theorem wi_X3 : Cond.initialized RX3 ∈ gW := gW_1 (List.mem_of_getElem? (i := 7) rfl) rfl
theorem wi_X6 : Cond.initialized RX6 ∈ gW := gW_1 (List.mem_of_getElem? (i := 8) rfl) rfl
theorem wi_X8 : Cond.initialized RX8 ∈ gW := gW_1 (List.mem_of_getElem? (i := 9) rfl) rfl
theorem wi_J9 : Cond.initialized RJ9 ∈ gW := gW_1 (List.mem_of_getElem? (i := 10) rfl) rfl
theorem wi_J10 : Cond.initialized RJ10 ∈ gW := gW_1 (List.mem_of_getElem? (i := 11) rfl) rfl
theorem wi_J7 : Cond.initialized RJ7 ∈ gW := gW_1 (List.mem_of_getElem? (i := 12) rfl) rfl
theorem wc_X7_init : Cond.code yX7_init cX7_init 1 none ∈ gW := gW_1 (List.mem_of_getElem? (i := 17) rfl) rfl
theorem wm_X7_init : Cond.instanceMethod yX7_init ∈ gW := gW_1 (List.mem_of_getElem? (i := 16) rfl) rfl
theorem wc_X5_init : Cond.code yX5_init cX5_init 1 none ∈ gW := gW_1 (List.mem_of_getElem? (i := 25) rfl) rfl
theorem wm_X5_init : Cond.instanceMethod yX5_init ∈ gW := gW_1 (List.mem_of_getElem? (i := 24) rfl) rfl
theorem wc_X4_init : Cond.code yX4_init cX4_init 1 none ∈ gW := gW_1 (List.mem_of_getElem? (i := 31) rfl) rfl
theorem wm_X4_init : Cond.instanceMethod yX4_init ∈ gW := gW_1 (List.mem_of_getElem? (i := 30) rfl) rfl
theorem wc_X2_init : Cond.code yX2_init cX2_init 1 none ∈ gW := gW_1 (List.mem_of_getElem? (i := 64) rfl) rfl
theorem wm_X2_init : Cond.instanceMethod yX2_init ∈ gW := gW_1 (List.mem_of_getElem? (i := 63) rfl) rfl
theorem wc_X0_init : Cond.code yX0_init cX0_init 1 none ∈ gW := gW_1 (List.mem_of_getElem? (i := 109) rfl) rfl
theorem wm_X0_init : Cond.instanceMethod yX0_init ∈ gW := gW_1 (List.mem_of_getElem? (i := 108) rfl) rfl
theorem wc_X1_init : Cond.code yX1_init cX1_init 1 none ∈ gW := gW_1 (List.mem_of_getElem? (i := 140) rfl) rfl
theorem wm_X1_init : Cond.instanceMethod yX1_init ∈ gW := gW_1 (List.mem_of_getElem? (i := 139) rfl) rfl
theorem wc_X3_init : Cond.code yX3_init cX3_init 2 none ∈ gW := gW_1 (List.mem_of_getElem? (i := 223) rfl) rfl
theorem wm_X3_init : Cond.instanceMethod yX3_init ∈ gW := gW_1 (List.mem_of_getElem? (i := 222) rfl) rfl
theorem wc_X6_init : Cond.code yX6_init cX6_init 1 none ∈ gW := gW_2 (List.mem_of_getElem? (i := 3) rfl) rfl
theorem wm_X6_init : Cond.instanceMethod yX6_init ∈ gW := gW_2 (List.mem_of_getElem? (i := 2) rfl) rfl
theorem wc_X7_addMember : Cond.code yX7_addMember cX7_addMember 2 (some .int) ∈ gW := gW_2 (List.mem_of_getElem? (i := 46) rfl) rfl
theorem wm_X7_addMember : Cond.instanceMethod yX7_addMember ∈ gW := gW_2 (List.mem_of_getElem? (i := 44) rfl) rfl
theorem wl_X7_addMember : Cond.selects RX7 yX7_addMember yX7_addMember ∈ gW := gW_2 (List.mem_of_getElem? (i := 45) rfl) rfl
theorem wc_X3_keep : Cond.code yX3_keep cX3_keep 2 none ∈ gW := gW_2 (List.mem_of_getElem? (i := 50) rfl) rfl
theorem wm_X3_keep : Cond.instanceMethod yX3_keep ∈ gW := gW_2 (List.mem_of_getElem? (i := 48) rfl) rfl
theorem wl_X3_keep : Cond.selects RX3 yX3_keep yX3_keep ∈ gW := gW_2 (List.mem_of_getElem? (i := 49) rfl) rfl
theorem wc_X5_copyFrom : Cond.code yX5_copyFrom cX5_copyFrom 2 none ∈ gW := gW_2 (List.mem_of_getElem? (i := 54) rfl) rfl
theorem wm_X5_copyFrom : Cond.instanceMethod yX5_copyFrom ∈ gW := gW_2 (List.mem_of_getElem? (i := 52) rfl) rfl
theorem wl_X5_copyFrom : Cond.selects RX5 yX5_copyFrom yX5_copyFrom ∈ gW := gW_2 (List.mem_of_getElem? (i := 53) rfl) rfl
theorem wc_X4_copyFrom : Cond.code yX4_copyFrom cX4_copyFrom 2 none ∈ gW := gW_2 (List.mem_of_getElem? (i := 58) rfl) rfl
theorem wm_X4_copyFrom : Cond.instanceMethod yX4_copyFrom ∈ gW := gW_2 (List.mem_of_getElem? (i := 56) rfl) rfl
theorem wl_X4_copyFrom : Cond.selects RX4 yX4_copyFrom yX4_copyFrom ∈ gW := gW_2 (List.mem_of_getElem? (i := 57) rfl) rfl
theorem wc_X7_copyAll : Cond.code yX7_copyAll cX7_copyAll 2 none ∈ gW := gW_2 (List.mem_of_getElem? (i := 61) rfl) rfl
theorem ws_X7_copyAll : Cond.static yX7_copyAll ∈ gW := gW_2 (List.mem_of_getElem? (i := 60) rfl) rfl
theorem wc_J9_min_7cf53 : Cond.code yJ9_min_7cf53 cJ9_min_7cf53 2 (some .int) ∈ gW := gW_2 (List.mem_of_getElem? (i := 64) rfl) rfl
theorem ws_J9_min_7cf53 : Cond.static yJ9_min_7cf53 ∈ gW := gW_2 (List.mem_of_getElem? (i := 63) rfl) rfl
theorem wc_X2_copyFrom : Cond.code yX2_copyFrom cX2_copyFrom 2 none ∈ gW := gW_2 (List.mem_of_getElem? (i := 71) rfl) rfl
theorem wm_X2_copyFrom : Cond.instanceMethod yX2_copyFrom ∈ gW := gW_2 (List.mem_of_getElem? (i := 69) rfl) rfl
theorem wl_X2_copyFrom : Cond.selects RX2 yX2_copyFrom yX2_copyFrom ∈ gW := gW_2 (List.mem_of_getElem? (i := 70) rfl) rfl
theorem wc_X0_copyFrom : Cond.code yX0_copyFrom cX0_copyFrom 2 none ∈ gW := gW_2 (List.mem_of_getElem? (i := 76) rfl) rfl
theorem wm_X0_copyFrom : Cond.instanceMethod yX0_copyFrom ∈ gW := gW_2 (List.mem_of_getElem? (i := 74) rfl) rfl
theorem wl_X0_copyFrom : Cond.selects RX0 yX0_copyFrom yX0_copyFrom ∈ gW := gW_2 (List.mem_of_getElem? (i := 75) rfl) rfl
theorem wc_X1_copyFrom : Cond.code yX1_copyFrom cX1_copyFrom 2 none ∈ gW := gW_2 (List.mem_of_getElem? (i := 81) rfl) rfl
theorem wm_X1_copyFrom : Cond.instanceMethod yX1_copyFrom ∈ gW := gW_2 (List.mem_of_getElem? (i := 79) rfl) rfl
theorem wl_X1_copyFrom : Cond.selects RX1 yX1_copyFrom yX1_copyFrom ∈ gW := gW_2 (List.mem_of_getElem? (i := 80) rfl) rfl
theorem wc_X4_append : Cond.code yX4_append cX4_append 2 (some .int) ∈ gW := gW_2 (List.mem_of_getElem? (i := 87) rfl) rfl
theorem wm_X4_append : Cond.instanceMethod yX4_append ∈ gW := gW_2 (List.mem_of_getElem? (i := 85) rfl) rfl
theorem wl_X4_append : Cond.selects RX4 yX4_append yX4_append ∈ gW := gW_2 (List.mem_of_getElem? (i := 86) rfl) rfl
theorem wc_X7_addClause : Cond.code yX7_addClause cX7_addClause 3 (some .int) ∈ gW := gW_2 (List.mem_of_getElem? (i := 91) rfl) rfl
theorem wm_X7_addClause : Cond.instanceMethod yX7_addClause ∈ gW := gW_2 (List.mem_of_getElem? (i := 89) rfl) rfl
theorem wl_X7_addClause : Cond.selects RX7 yX7_addClause yX7_addClause ∈ gW := gW_2 (List.mem_of_getElem? (i := 90) rfl) rfl
theorem wc_X7_isValue : Cond.code yX7_isValue cX7_isValue 1 (some .boolean) ∈ gW := gW_2 (List.mem_of_getElem? (i := 94) rfl) rfl
theorem ws_X7_isValue : Cond.static yX7_isValue ∈ gW := gW_2 (List.mem_of_getElem? (i := 93) rfl) rfl
theorem wc_X2_find : Cond.code yX2_find cX2_find 3 (some .int) ∈ gW := gW_2 (List.mem_of_getElem? (i := 98) rfl) rfl
theorem wm_X2_find : Cond.instanceMethod yX2_find ∈ gW := gW_2 (List.mem_of_getElem? (i := 96) rfl) rfl
theorem wl_X2_find : Cond.selects RX2 yX2_find yX2_find ∈ gW := gW_2 (List.mem_of_getElem? (i := 97) rfl) rfl
theorem wc_X2_insert : Cond.code yX2_insert cX2_insert 4 none ∈ gW := gW_2 (List.mem_of_getElem? (i := 102) rfl) rfl
theorem wm_X2_insert : Cond.instanceMethod yX2_insert ∈ gW := gW_2 (List.mem_of_getElem? (i := 100) rfl) rfl
theorem wl_X2_insert : Cond.selects RX2 yX2_insert yX2_insert ∈ gW := gW_2 (List.mem_of_getElem? (i := 101) rfl) rfl
theorem wc_X2_slot : Cond.code yX2_slot cX2_slot 2 (some .int) ∈ gW := gW_2 (List.mem_of_getElem? (i := 105) rfl) rfl
theorem ws_X2_slot : Cond.static yX2_slot ∈ gW := gW_2 (List.mem_of_getElem? (i := 104) rfl) rfl
theorem wc_X7_set : Cond.code yX7_set cX7_set 4 (some .int) ∈ gW := gW_2 (List.mem_of_getElem? (i := 109) rfl) rfl
theorem wm_X7_set : Cond.instanceMethod yX7_set ∈ gW := gW_2 (List.mem_of_getElem? (i := 107) rfl) rfl
theorem wl_X7_set : Cond.selects RX7 yX7_set yX7_set ∈ gW := gW_2 (List.mem_of_getElem? (i := 108) rfl) rfl
theorem wc_X7_member : Cond.code yX7_member cX7_member 3 (some .int) ∈ gW := gW_2 (List.mem_of_getElem? (i := 117) rfl) rfl
theorem wm_X7_member : Cond.instanceMethod yX7_member ∈ gW := gW_2 (List.mem_of_getElem? (i := 115) rfl) rfl
theorem wl_X7_member : Cond.selects RX7 yX7_member yX7_member ∈ gW := gW_2 (List.mem_of_getElem? (i := 116) rfl) rfl
theorem wc_X4_has : Cond.code yX4_has cX4_has 2 (some .boolean) ∈ gW := gW_2 (List.mem_of_getElem? (i := 121) rfl) rfl
theorem wm_X4_has : Cond.instanceMethod yX4_has ∈ gW := gW_2 (List.mem_of_getElem? (i := 119) rfl) rfl
theorem wl_X4_has : Cond.selects RX4 yX4_has yX4_has ∈ gW := gW_2 (List.mem_of_getElem? (i := 120) rfl) rfl
theorem wc_X5_isLapsed : Cond.code yX5_isLapsed cX5_isLapsed 2 (some .boolean) ∈ gW := gW_2 (List.mem_of_getElem? (i := 125) rfl) rfl
theorem wm_X5_isLapsed : Cond.instanceMethod yX5_isLapsed ∈ gW := gW_2 (List.mem_of_getElem? (i := 123) rfl) rfl
theorem wl_X5_isLapsed : Cond.selects RX5 yX5_isLapsed yX5_isLapsed ∈ gW := gW_2 (List.mem_of_getElem? (i := 124) rfl) rfl
theorem wc_X4_hasVoted : Cond.code yX4_hasVoted cX4_hasVoted 2 (some .boolean) ∈ gW := gW_2 (List.mem_of_getElem? (i := 129) rfl) rfl
theorem wm_X4_hasVoted : Cond.instanceMethod yX4_hasVoted ∈ gW := gW_2 (List.mem_of_getElem? (i := 127) rfl) rfl
theorem wl_X4_hasVoted : Cond.selects RX4 yX4_hasVoted yX4_hasVoted ∈ gW := gW_2 (List.mem_of_getElem? (i := 128) rfl) rfl
theorem wc_X1_numberOf : Cond.code yX1_numberOf cX1_numberOf 4 (some .int) ∈ gW := gW_2 (List.mem_of_getElem? (i := 133) rfl) rfl
theorem wm_X1_numberOf : Cond.instanceMethod yX1_numberOf ∈ gW := gW_2 (List.mem_of_getElem? (i := 131) rfl) rfl
theorem wl_X1_numberOf : Cond.selects RX1 yX1_numberOf yX1_numberOf ∈ gW := gW_2 (List.mem_of_getElem? (i := 132) rfl) rfl
theorem wc_X7_value : Cond.code yX7_value cX7_value 3 (some .int) ∈ gW := gW_2 (List.mem_of_getElem? (i := 137) rfl) rfl
theorem wm_X7_value : Cond.instanceMethod yX7_value ∈ gW := gW_2 (List.mem_of_getElem? (i := 135) rfl) rfl
theorem wl_X7_value : Cond.selects RX7 yX7_value yX7_value ∈ gW := gW_2 (List.mem_of_getElem? (i := 136) rfl) rfl
theorem wc_X7_valueIn : Cond.code yX7_valueIn cX7_valueIn 4 (some .int) ∈ gW := gW_2 (List.mem_of_getElem? (i := 141) rfl) rfl
theorem wm_X7_valueIn : Cond.instanceMethod yX7_valueIn ∈ gW := gW_2 (List.mem_of_getElem? (i := 139) rfl) rfl
theorem wl_X7_valueIn : Cond.selects RX7 yX7_valueIn yX7_valueIn ∈ gW := gW_2 (List.mem_of_getElem? (i := 140) rfl) rfl
theorem wc_X2_hasEdition : Cond.code yX2_hasEdition cX2_hasEdition 2 (some .boolean) ∈ gW := gW_2 (List.mem_of_getElem? (i := 145) rfl) rfl
theorem wm_X2_hasEdition : Cond.instanceMethod yX2_hasEdition ∈ gW := gW_2 (List.mem_of_getElem? (i := 143) rfl) rfl
theorem wl_X2_hasEdition : Cond.selects RX2 yX2_hasEdition yX2_hasEdition ∈ gW := gW_2 (List.mem_of_getElem? (i := 144) rfl) rfl
theorem wc_X7_clause : Cond.code yX7_clause cX7_clause 2 (some .int) ∈ gW := gW_2 (List.mem_of_getElem? (i := 150) rfl) rfl
theorem wm_X7_clause : Cond.instanceMethod yX7_clause ∈ gW := gW_2 (List.mem_of_getElem? (i := 148) rfl) rfl
theorem wl_X7_clause : Cond.selects RX7 yX7_clause yX7_clause ∈ gW := gW_2 (List.mem_of_getElem? (i := 149) rfl) rfl
theorem wc_X7_count : Cond.code yX7_count cX7_count 2 (some .int) ∈ gW := gW_2 (List.mem_of_getElem? (i := 154) rfl) rfl
theorem wm_X7_count : Cond.instanceMethod yX7_count ∈ gW := gW_2 (List.mem_of_getElem? (i := 152) rfl) rfl
theorem wl_X7_count : Cond.selects RX7 yX7_count yX7_count ∈ gW := gW_2 (List.mem_of_getElem? (i := 153) rfl) rfl
theorem wc_X1_pending : Cond.code yX1_pending cX1_pending 3 (some .int) ∈ gW := gW_2 (List.mem_of_getElem? (i := 158) rfl) rfl
theorem wm_X1_pending : Cond.instanceMethod yX1_pending ∈ gW := gW_2 (List.mem_of_getElem? (i := 156) rfl) rfl
theorem wl_X1_pending : Cond.selects RX1 yX1_pending yX1_pending ∈ gW := gW_2 (List.mem_of_getElem? (i := 157) rfl) rfl
theorem wc_X5_activeWeight : Cond.code yX5_activeWeight cX5_activeWeight 1 (some .int) ∈ gW := gW_2 (List.mem_of_getElem? (i := 162) rfl) rfl
theorem wm_X5_activeWeight : Cond.instanceMethod yX5_activeWeight ∈ gW := gW_2 (List.mem_of_getElem? (i := 160) rfl) rfl
theorem wl_X5_activeWeight : Cond.selects RX5 yX5_activeWeight yX5_activeWeight ∈ gW := gW_2 (List.mem_of_getElem? (i := 161) rfl) rfl
theorem wc_X5_activeWeightIn : Cond.code yX5_activeWeightIn cX5_activeWeightIn 4 (some .int) ∈ gW := gW_2 (List.mem_of_getElem? (i := 166) rfl) rfl
theorem wm_X5_activeWeightIn : Cond.instanceMethod yX5_activeWeightIn ∈ gW := gW_2 (List.mem_of_getElem? (i := 164) rfl) rfl
theorem wl_X5_activeWeightIn : Cond.selects RX5 yX5_activeWeightIn yX5_activeWeightIn ∈ gW := gW_2 (List.mem_of_getElem? (i := 165) rfl) rfl
theorem wc_X7_open : Cond.code yX7_open cX7_open 1 (some .int) ∈ gW := gW_2 (List.mem_of_getElem? (i := 171) rfl) rfl
theorem wm_X7_open : Cond.instanceMethod yX7_open ∈ gW := gW_2 (List.mem_of_getElem? (i := 169) rfl) rfl
theorem wl_X7_open : Cond.selects RX7 yX7_open yX7_open ∈ gW := gW_2 (List.mem_of_getElem? (i := 170) rfl) rfl
theorem wc_X5_openBallot : Cond.code yX5_openBallot cX5_openBallot 1 none ∈ gW := gW_2 (List.mem_of_getElem? (i := 175) rfl) rfl
theorem wm_X5_openBallot : Cond.instanceMethod yX5_openBallot ∈ gW := gW_2 (List.mem_of_getElem? (i := 173) rfl) rfl
theorem wl_X5_openBallot : Cond.selects RX5 yX5_openBallot yX5_openBallot ∈ gW := gW_2 (List.mem_of_getElem? (i := 174) rfl) rfl
theorem wc_J7_fill_53178 : Cond.code yJ7_fill_53178 cJ7_fill_53178 4 none ∈ gW := gW_2 (List.mem_of_getElem? (i := 178) rfl) rfl
theorem ws_J7_fill_53178 : Cond.static yJ7_fill_53178 ∈ gW := gW_2 (List.mem_of_getElem? (i := 177) rfl) rfl
theorem wc_X7_vote : Cond.code yX7_vote cX7_vote 3 (some .int) ∈ gW := gW_2 (List.mem_of_getElem? (i := 182) rfl) rfl
theorem wm_X7_vote : Cond.instanceMethod yX7_vote ∈ gW := gW_2 (List.mem_of_getElem? (i := 180) rfl) rfl
theorem wl_X7_vote : Cond.selects RX7 yX7_vote yX7_vote ∈ gW := gW_2 (List.mem_of_getElem? (i := 181) rfl) rfl
theorem wc_X4_voters : Cond.code yX4_voters cX4_voters 3 (some .int) ∈ gW := gW_2 (List.mem_of_getElem? (i := 186) rfl) rfl
theorem wm_X4_voters : Cond.instanceMethod yX4_voters ∈ gW := gW_2 (List.mem_of_getElem? (i := 184) rfl) rfl
theorem wl_X4_voters : Cond.selects RX4 yX4_voters yX4_voters ∈ gW := gW_2 (List.mem_of_getElem? (i := 185) rfl) rfl
theorem wc_X7_pass : Cond.code yX7_pass cX7_pass 2 (some .int) ∈ gW := gW_2 (List.mem_of_getElem? (i := 191) rfl) rfl
theorem wm_X7_pass : Cond.instanceMethod yX7_pass ∈ gW := gW_2 (List.mem_of_getElem? (i := 189) rfl) rfl
theorem wl_X7_pass : Cond.selects RX7 yX7_pass yX7_pass ∈ gW := gW_2 (List.mem_of_getElem? (i := 190) rfl) rfl
theorem wc_X5_endBallot : Cond.code yX5_endBallot cX5_endBallot 1 none ∈ gW := gW_2 (List.mem_of_getElem? (i := 195) rfl) rfl
theorem wm_X5_endBallot : Cond.instanceMethod yX5_endBallot ∈ gW := gW_2 (List.mem_of_getElem? (i := 193) rfl) rfl
theorem wl_X5_endBallot : Cond.selects RX5 yX5_endBallot yX5_endBallot ∈ gW := gW_2 (List.mem_of_getElem? (i := 194) rfl) rfl
theorem wc_X5_countVotes : Cond.code yX5_countVotes cX5_countVotes 3 none ∈ gW := gW_2 (List.mem_of_getElem? (i := 199) rfl) rfl
theorem wm_X5_countVotes : Cond.instanceMethod yX5_countVotes ∈ gW := gW_2 (List.mem_of_getElem? (i := 197) rfl) rfl
theorem wl_X5_countVotes : Cond.selects RX5 yX5_countVotes yX5_countVotes ∈ gW := gW_2 (List.mem_of_getElem? (i := 198) rfl) rfl
theorem wc_X5_sumFor : Cond.code yX5_sumFor cX5_sumFor 3 (some .int) ∈ gW := gW_2 (List.mem_of_getElem? (i := 204) rfl) rfl
theorem wm_X5_sumFor : Cond.instanceMethod yX5_sumFor ∈ gW := gW_2 (List.mem_of_getElem? (i := 203) rfl) rfl
theorem wl_X5_sumFor : Cond.selects RX5 yX5_sumFor yX5_sumFor ∈ gW := gW_p1 (q := (yX5_sumFor, 6)) (List.mem_of_getElem? (i := 0) rfl)
theorem wc_X1_hasTechnicalOf : Cond.code yX1_hasTechnicalOf cX1_hasTechnicalOf 3 (some .boolean) ∈ gW := gW_2 (List.mem_of_getElem? (i := 208) rfl) rfl
theorem wm_X1_hasTechnicalOf : Cond.instanceMethod yX1_hasTechnicalOf ∈ gW := gW_2 (List.mem_of_getElem? (i := 206) rfl) rfl
theorem wl_X1_hasTechnicalOf : Cond.selects RX1 yX1_hasTechnicalOf yX1_hasTechnicalOf ∈ gW := gW_2 (List.mem_of_getElem? (i := 207) rfl) rfl
theorem wc_X5_isCarriedBy : Cond.code yX5_isCarriedBy cX5_isCarriedBy 3 (some .boolean) ∈ gW := gW_2 (List.mem_of_getElem? (i := 212) rfl) rfl
theorem wm_X5_isCarriedBy : Cond.instanceMethod yX5_isCarriedBy ∈ gW := gW_2 (List.mem_of_getElem? (i := 211) rfl) rfl
theorem wl_X5_isCarriedBy : Cond.selects RX5 yX5_isCarriedBy yX5_isCarriedBy ∈ gW := gW_p1 (q := (yX5_isCarriedBy, 6)) (List.mem_of_getElem? (i := 1) rfl)
theorem wc_X4_noteMisses : Cond.code yX4_noteMisses cX4_noteMisses 2 none ∈ gW := gW_2 (List.mem_of_getElem? (i := 216) rfl) rfl
theorem wm_X4_noteMisses : Cond.instanceMethod yX4_noteMisses ∈ gW := gW_2 (List.mem_of_getElem? (i := 214) rfl) rfl
theorem wl_X4_noteMisses : Cond.selects RX4 yX4_noteMisses yX4_noteMisses ∈ gW := gW_2 (List.mem_of_getElem? (i := 215) rfl) rfl
theorem wc_X1_makeAllPending : Cond.code yX1_makeAllPending cX1_makeAllPending 2 none ∈ gW := gW_2 (List.mem_of_getElem? (i := 220) rfl) rfl
theorem wm_X1_makeAllPending : Cond.instanceMethod yX1_makeAllPending ∈ gW := gW_2 (List.mem_of_getElem? (i := 218) rfl) rfl
theorem wl_X1_makeAllPending : Cond.selects RX1 yX1_makeAllPending yX1_makeAllPending ∈ gW := gW_2 (List.mem_of_getElem? (i := 219) rfl) rfl
theorem wc_X7_tally : Cond.code yX7_tally cX7_tally 2 (some .int) ∈ gW := gW_2 (List.mem_of_getElem? (i := 224) rfl) rfl
theorem wm_X7_tally : Cond.instanceMethod yX7_tally ∈ gW := gW_2 (List.mem_of_getElem? (i := 222) rfl) rfl
theorem wl_X7_tally : Cond.selects RX7 yX7_tally yX7_tally ∈ gW := gW_2 (List.mem_of_getElem? (i := 223) rfl) rfl
theorem wc_X7_lacking : Cond.code yX7_lacking cX7_lacking 6 (some .int) ∈ gW := gW_2 (List.mem_of_getElem? (i := 229) rfl) rfl
theorem wm_X7_lacking : Cond.instanceMethod yX7_lacking ∈ gW := gW_2 (List.mem_of_getElem? (i := 227) rfl) rfl
theorem wl_X7_lacking : Cond.selects RX7 yX7_lacking yX7_lacking ∈ gW := gW_2 (List.mem_of_getElem? (i := 228) rfl) rfl
theorem wc_X7_dividedUp : Cond.code yX7_dividedUp cX7_dividedUp 2 (some .int) ∈ gW := gW_2 (List.mem_of_getElem? (i := 232) rfl) rfl
theorem ws_X7_dividedUp : Cond.static yX7_dividedUp ∈ gW := gW_2 (List.mem_of_getElem? (i := 231) rfl) rfl
theorem wc_J9_max_7cf53 : Cond.code yJ9_max_7cf53 cJ9_max_7cf53 2 (some .int) ∈ gW := gW_2 (List.mem_of_getElem? (i := 235) rfl) rfl
theorem ws_J9_max_7cf53 : Cond.static yJ9_max_7cf53 ∈ gW := gW_2 (List.mem_of_getElem? (i := 234) rfl) rfl
theorem wc_X7_comment : Cond.code yX7_comment cX7_comment 6 (some .int) ∈ gW := gW_2 (List.mem_of_getElem? (i := 239) rfl) rfl
theorem wm_X7_comment : Cond.instanceMethod yX7_comment ∈ gW := gW_2 (List.mem_of_getElem? (i := 237) rfl) rfl
theorem wl_X7_comment : Cond.selects RX7 yX7_comment yX7_comment ∈ gW := gW_2 (List.mem_of_getElem? (i := 238) rfl) rfl
theorem wc_X1_append : Cond.code yX1_append cX1_append 5 (some .int) ∈ gW := gW_3 (List.mem_of_getElem? (i := 3) rfl) rfl
theorem wm_X1_append : Cond.instanceMethod yX1_append ∈ gW := gW_3 (List.mem_of_getElem? (i := 1) rfl) rfl
theorem wl_X1_append : Cond.selects RX1 yX1_append yX1_append ∈ gW := gW_3 (List.mem_of_getElem? (i := 2) rfl) rfl
theorem wc_X7_told : Cond.code yX7_told cX7_told 3 (some .int) ∈ gW := gW_3 (List.mem_of_getElem? (i := 7) rfl) rfl
theorem wm_X7_told : Cond.instanceMethod yX7_told ∈ gW := gW_3 (List.mem_of_getElem? (i := 5) rfl) rfl
theorem wl_X7_told : Cond.selects RX7 yX7_told yX7_told ∈ gW := gW_3 (List.mem_of_getElem? (i := 6) rfl) rfl
theorem wc_X1_has : Cond.code yX1_has cX1_has 2 (some .boolean) ∈ gW := gW_3 (List.mem_of_getElem? (i := 11) rfl) rfl
theorem wm_X1_has : Cond.instanceMethod yX1_has ∈ gW := gW_3 (List.mem_of_getElem? (i := 9) rfl) rfl
theorem wl_X1_has : Cond.selects RX1 yX1_has yX1_has ∈ gW := gW_3 (List.mem_of_getElem? (i := 10) rfl) rfl
theorem wc_X1_isResolved : Cond.code yX1_isResolved cX1_isResolved 2 (some .boolean) ∈ gW := gW_3 (List.mem_of_getElem? (i := 15) rfl) rfl
theorem wm_X1_isResolved : Cond.instanceMethod yX1_isResolved ∈ gW := gW_3 (List.mem_of_getElem? (i := 13) rfl) rfl
theorem wl_X1_isResolved : Cond.selects RX1 yX1_isResolved yX1_isResolved ∈ gW := gW_3 (List.mem_of_getElem? (i := 14) rfl) rfl
theorem wc_X1_gaveValue : Cond.code yX1_gaveValue cX1_gaveValue 2 (some .boolean) ∈ gW := gW_3 (List.mem_of_getElem? (i := 19) rfl) rfl
theorem wm_X1_gaveValue : Cond.instanceMethod yX1_gaveValue ∈ gW := gW_3 (List.mem_of_getElem? (i := 17) rfl) rfl
theorem wl_X1_gaveValue : Cond.selects RX1 yX1_gaveValue yX1_gaveValue ∈ gW := gW_3 (List.mem_of_getElem? (i := 18) rfl) rfl
theorem wc_X7_next : Cond.code yX7_next cX7_next 2 (some .int) ∈ gW := gW_3 (List.mem_of_getElem? (i := 23) rfl) rfl
theorem wm_X7_next : Cond.instanceMethod yX7_next ∈ gW := gW_3 (List.mem_of_getElem? (i := 21) rfl) rfl
theorem wl_X7_next : Cond.selects RX7 yX7_next yX7_next ∈ gW := gW_3 (List.mem_of_getElem? (i := 22) rfl) rfl
theorem wc_X1_firstPending : Cond.code yX1_firstPending cX1_firstPending 4 (some .int) ∈ gW := gW_3 (List.mem_of_getElem? (i := 27) rfl) rfl
theorem wm_X1_firstPending : Cond.instanceMethod yX1_firstPending ∈ gW := gW_3 (List.mem_of_getElem? (i := 25) rfl) rfl
theorem wl_X1_firstPending : Cond.selects RX1 yX1_firstPending yX1_firstPending ∈ gW := gW_3 (List.mem_of_getElem? (i := 26) rfl) rfl
theorem wc_X1_isAhead : Cond.code yX1_isAhead cX1_isAhead 4 (some .boolean) ∈ gW := gW_3 (List.mem_of_getElem? (i := 31) rfl) rfl
theorem wm_X1_isAhead : Cond.instanceMethod yX1_isAhead ∈ gW := gW_3 (List.mem_of_getElem? (i := 30) rfl) rfl
theorem wl_X1_isAhead : Cond.selects RX1 yX1_isAhead yX1_isAhead ∈ gW := gW_p1 (q := (yX1_isAhead, 10)) (List.mem_of_getElem? (i := 2) rfl)
theorem wc_X7_resolve : Cond.code yX7_resolve cX7_resolve 5 (some .int) ∈ gW := gW_3 (List.mem_of_getElem? (i := 35) rfl) rfl
theorem wm_X7_resolve : Cond.instanceMethod yX7_resolve ∈ gW := gW_3 (List.mem_of_getElem? (i := 33) rfl) rfl
theorem wl_X7_resolve : Cond.selects RX7 yX7_resolve yX7_resolve ∈ gW := gW_3 (List.mem_of_getElem? (i := 34) rfl) rfl
theorem wc_X2_canGet : Cond.code yX2_canGet cX2_canGet 3 (some .boolean) ∈ gW := gW_3 (List.mem_of_getElem? (i := 39) rfl) rfl
theorem wm_X2_canGet : Cond.instanceMethod yX2_canGet ∈ gW := gW_3 (List.mem_of_getElem? (i := 37) rfl) rfl
theorem wl_X2_canGet : Cond.selects RX2 yX2_canGet yX2_canGet ∈ gW := gW_3 (List.mem_of_getElem? (i := 38) rfl) rfl
theorem wc_X5_settle : Cond.code yX5_settle cX5_settle 4 none ∈ gW := gW_3 (List.mem_of_getElem? (i := 43) rfl) rfl
theorem wm_X5_settle : Cond.instanceMethod yX5_settle ∈ gW := gW_3 (List.mem_of_getElem? (i := 41) rfl) rfl
theorem wl_X5_settle : Cond.selects RX5 yX5_settle yX5_settle ∈ gW := gW_3 (List.mem_of_getElem? (i := 42) rfl) rfl
theorem wc_X1_resolveAs : Cond.code yX1_resolveAs cX1_resolveAs 5 none ∈ gW := gW_3 (List.mem_of_getElem? (i := 47) rfl) rfl
theorem wm_X1_resolveAs : Cond.instanceMethod yX1_resolveAs ∈ gW := gW_3 (List.mem_of_getElem? (i := 45) rfl) rfl
theorem wl_X1_resolveAs : Cond.selects RX1 yX1_resolveAs yX1_resolveAs ∈ gW := gW_3 (List.mem_of_getElem? (i := 46) rfl) rfl
theorem wc_X2_isChanged : Cond.code yX2_isChanged cX2_isChanged 2 (some .boolean) ∈ gW := gW_3 (List.mem_of_getElem? (i := 53) rfl) rfl
theorem wm_X2_isChanged : Cond.instanceMethod yX2_isChanged ∈ gW := gW_3 (List.mem_of_getElem? (i := 51) rfl) rfl
theorem wl_X2_isChanged : Cond.selects RX2 yX2_isChanged yX2_isChanged ∈ gW := gW_3 (List.mem_of_getElem? (i := 52) rfl) rfl
theorem wc_X5_bringEdition : Cond.code yX5_bringEdition cX5_bringEdition 4 none ∈ gW := gW_3 (List.mem_of_getElem? (i := 57) rfl) rfl
theorem wm_X5_bringEdition : Cond.instanceMethod yX5_bringEdition ∈ gW := gW_3 (List.mem_of_getElem? (i := 56) rfl) rfl
theorem wl_X5_bringEdition : Cond.selects RX5 yX5_bringEdition yX5_bringEdition ∈ gW := gW_p1 (q := (yX5_bringEdition, 6)) (List.mem_of_getElem? (i := 3) rfl)
theorem wc_X1_firstBehind : Cond.code yX1_firstBehind cX1_firstBehind 5 (some .int) ∈ gW := gW_3 (List.mem_of_getElem? (i := 62) rfl) rfl
theorem wm_X1_firstBehind : Cond.instanceMethod yX1_firstBehind ∈ gW := gW_3 (List.mem_of_getElem? (i := 60) rfl) rfl
theorem wl_X1_firstBehind : Cond.selects RX1 yX1_firstBehind yX1_firstBehind ∈ gW := gW_3 (List.mem_of_getElem? (i := 61) rfl) rfl
theorem wc_X7_appeal : Cond.code yX7_appeal cX7_appeal 4 (some .int) ∈ gW := gW_3 (List.mem_of_getElem? (i := 67) rfl) rfl
theorem wm_X7_appeal : Cond.instanceMethod yX7_appeal ∈ gW := gW_3 (List.mem_of_getElem? (i := 65) rfl) rfl
theorem wl_X7_appeal : Cond.selects RX7 yX7_appeal yX7_appeal ∈ gW := gW_3 (List.mem_of_getElem? (i := 66) rfl) rfl
theorem wc_X4_isSet : Cond.code yX4_isSet cX4_isSet 2 (some .boolean) ∈ gW := gW_3 (List.mem_of_getElem? (i := 71) rfl) rfl
theorem wm_X4_isSet : Cond.instanceMethod yX4_isSet ∈ gW := gW_3 (List.mem_of_getElem? (i := 69) rfl) rfl
theorem wl_X4_isSet : Cond.selects RX4 yX4_isSet yX4_isSet ∈ gW := gW_3 (List.mem_of_getElem? (i := 70) rfl) rfl
theorem wc_X5_reopen : Cond.code yX5_reopen cX5_reopen 4 none ∈ gW := gW_3 (List.mem_of_getElem? (i := 76) rfl) rfl
theorem wm_X5_reopen : Cond.instanceMethod yX5_reopen ∈ gW := gW_3 (List.mem_of_getElem? (i := 74) rfl) rfl
theorem wl_X5_reopen : Cond.selects RX5 yX5_reopen yX5_reopen ∈ gW := gW_3 (List.mem_of_getElem? (i := 75) rfl) rfl
theorem wc_X7_changes : Cond.code yX7_changes cX7_changes 2 (some .int) ∈ gW := gW_3 (List.mem_of_getElem? (i := 80) rfl) rfl
theorem wm_X7_changes : Cond.instanceMethod yX7_changes ∈ gW := gW_3 (List.mem_of_getElem? (i := 78) rfl) rfl
theorem wl_X7_changes : Cond.selects RX7 yX7_changes yX7_changes ∈ gW := gW_3 (List.mem_of_getElem? (i := 79) rfl) rfl
theorem wc_X2_changesOf : Cond.code yX2_changesOf cX2_changesOf 4 (some .int) ∈ gW := gW_3 (List.mem_of_getElem? (i := 84) rfl) rfl
theorem wm_X2_changesOf : Cond.instanceMethod yX2_changesOf ∈ gW := gW_3 (List.mem_of_getElem? (i := 82) rfl) rfl
theorem wl_X2_changesOf : Cond.selects RX2 yX2_changesOf yX2_changesOf ∈ gW := gW_3 (List.mem_of_getElem? (i := 83) rfl) rfl
theorem wc_X2_differs : Cond.code yX2_differs cX2_differs 3 (some .boolean) ∈ gW := gW_3 (List.mem_of_getElem? (i := 88) rfl) rfl
theorem wm_X2_differs : Cond.instanceMethod yX2_differs ∈ gW := gW_3 (List.mem_of_getElem? (i := 86) rfl) rfl
theorem wl_X2_differs : Cond.selects RX2 yX2_differs yX2_differs ∈ gW := gW_3 (List.mem_of_getElem? (i := 87) rfl) rfl
theorem wc_X7_change : Cond.code yX7_change cX7_change 5 (some .int) ∈ gW := gW_3 (List.mem_of_getElem? (i := 92) rfl) rfl
theorem wm_X7_change : Cond.instanceMethod yX7_change ∈ gW := gW_3 (List.mem_of_getElem? (i := 90) rfl) rfl
theorem wl_X7_change : Cond.selects RX7 yX7_change yX7_change ∈ gW := gW_3 (List.mem_of_getElem? (i := 91) rfl) rfl
theorem wc_X2_placeOfChange : Cond.code yX2_placeOfChange cX2_placeOfChange 5 (some .int) ∈ gW := gW_3 (List.mem_of_getElem? (i := 96) rfl) rfl
theorem wm_X2_placeOfChange : Cond.instanceMethod yX2_placeOfChange ∈ gW := gW_3 (List.mem_of_getElem? (i := 94) rfl) rfl
theorem wl_X2_placeOfChange : Cond.selects RX2 yX2_placeOfChange yX2_placeOfChange ∈ gW := gW_3 (List.mem_of_getElem? (i := 95) rfl) rfl
theorem wc_X7_undo : Cond.code yX7_undo cX7_undo 1 (some .int) ∈ gW := gW_3 (List.mem_of_getElem? (i := 100) rfl) rfl
theorem wm_X7_undo : Cond.instanceMethod yX7_undo ∈ gW := gW_3 (List.mem_of_getElem? (i := 98) rfl) rfl
theorem wl_X7_undo : Cond.selects RX7 yX7_undo yX7_undo ∈ gW := gW_3 (List.mem_of_getElem? (i := 99) rfl) rfl
theorem wc_X3_restore : Cond.code yX3_restore cX3_restore 2 none ∈ gW := gW_3 (List.mem_of_getElem? (i := 104) rfl) rfl
theorem wm_X3_restore : Cond.instanceMethod yX3_restore ∈ gW := gW_3 (List.mem_of_getElem? (i := 102) rfl) rfl
theorem wl_X3_restore : Cond.selects RX3 yX3_restore yX3_restore ∈ gW := gW_3 (List.mem_of_getElem? (i := 103) rfl) rfl
theorem wc_X7_type : Cond.code yX7_type cX7_type 2 (some .int) ∈ gW := gW_3 (List.mem_of_getElem? (i := 108) rfl) rfl
theorem wm_X7_type : Cond.instanceMethod yX7_type ∈ gW := gW_3 (List.mem_of_getElem? (i := 106) rfl) rfl
theorem wl_X7_type : Cond.selects RX7 yX7_type yX7_type ∈ gW := gW_3 (List.mem_of_getElem? (i := 107) rfl) rfl
theorem wc_X6_append : Cond.code yX6_append cX6_append 2 none ∈ gW := gW_3 (List.mem_of_getElem? (i := 112) rfl) rfl
theorem wm_X6_append : Cond.instanceMethod yX6_append ∈ gW := gW_3 (List.mem_of_getElem? (i := 110) rfl) rfl
theorem wl_X6_append : Cond.selects RX6 yX6_append yX6_append ∈ gW := gW_3 (List.mem_of_getElem? (i := 111) rfl) rfl
theorem wc_X7_clearText : Cond.code yX7_clearText cX7_clearText 2 (some .int) ∈ gW := gW_3 (List.mem_of_getElem? (i := 116) rfl) rfl
theorem wm_X7_clearText : Cond.instanceMethod yX7_clearText ∈ gW := gW_3 (List.mem_of_getElem? (i := 114) rfl) rfl
theorem wl_X7_clearText : Cond.selects RX7 yX7_clearText yX7_clearText ∈ gW := gW_3 (List.mem_of_getElem? (i := 115) rfl) rfl
theorem wc_X7_fault : Cond.code yX7_fault cX7_fault 3 (some .int) ∈ gW := gW_3 (List.mem_of_getElem? (i := 120) rfl) rfl
theorem wm_X7_fault : Cond.instanceMethod yX7_fault ∈ gW := gW_3 (List.mem_of_getElem? (i := 118) rfl) rfl
theorem wl_X7_fault : Cond.selects RX7 yX7_fault yX7_fault ∈ gW := gW_3 (List.mem_of_getElem? (i := 119) rfl) rfl
theorem wc_X7_firstFault : Cond.code yX7_firstFault cX7_firstFault 4 (some .int) ∈ gW := gW_3 (List.mem_of_getElem? (i := 124) rfl) rfl
theorem wm_X7_firstFault : Cond.instanceMethod yX7_firstFault ∈ gW := gW_3 (List.mem_of_getElem? (i := 123) rfl) rfl
theorem wl_X7_firstFault : Cond.selects RX7 yX7_firstFault yX7_firstFault ∈ gW := gW_p1 (q := (yX7_firstFault, 3)) (List.mem_of_getElem? (i := 4) rfl)
theorem wc_X6_rewind : Cond.code yX6_rewind cX6_rewind 1 none ∈ gW := gW_3 (List.mem_of_getElem? (i := 128) rfl) rfl
theorem wm_X6_rewind : Cond.instanceMethod yX6_rewind ∈ gW := gW_3 (List.mem_of_getElem? (i := 126) rfl) rfl
theorem wl_X6_rewind : Cond.selects RX6 yX6_rewind yX6_rewind ∈ gW := gW_3 (List.mem_of_getElem? (i := 127) rfl) rfl
theorem wc_X6_isAtEnd : Cond.code yX6_isAtEnd cX6_isAtEnd 1 (some .boolean) ∈ gW := gW_3 (List.mem_of_getElem? (i := 132) rfl) rfl
theorem wm_X6_isAtEnd : Cond.instanceMethod yX6_isAtEnd ∈ gW := gW_3 (List.mem_of_getElem? (i := 130) rfl) rfl
theorem wl_X6_isAtEnd : Cond.selects RX6 yX6_isAtEnd yX6_isAtEnd ∈ gW := gW_3 (List.mem_of_getElem? (i := 131) rfl) rfl
theorem wc_X6_readComment : Cond.code yX6_readComment cX6_readComment 4 (some .boolean) ∈ gW := gW_3 (List.mem_of_getElem? (i := 136) rfl) rfl
theorem wm_X6_readComment : Cond.instanceMethod yX6_readComment ∈ gW := gW_3 (List.mem_of_getElem? (i := 134) rfl) rfl
theorem wl_X6_readComment : Cond.selects RX6 yX6_readComment yX6_readComment ∈ gW := gW_3 (List.mem_of_getElem? (i := 135) rfl) rfl
theorem wc_X6_digitsAt : Cond.code yX6_digitsAt cX6_digitsAt 5 (some .int) ∈ gW := gW_3 (List.mem_of_getElem? (i := 140) rfl) rfl
theorem wm_X6_digitsAt : Cond.instanceMethod yX6_digitsAt ∈ gW := gW_3 (List.mem_of_getElem? (i := 139) rfl) rfl
theorem wl_X6_digitsAt : Cond.selects RX6 yX6_digitsAt yX6_digitsAt ∈ gW := gW_p1 (q := (yX6_digitsAt, 7)) (List.mem_of_getElem? (i := 5) rfl)
theorem wc_X6_signAt : Cond.code yX6_signAt cX6_signAt 2 (some .char) ∈ gW := gW_3 (List.mem_of_getElem? (i := 144) rfl) rfl
theorem wm_X6_signAt : Cond.instanceMethod yX6_signAt ∈ gW := gW_3 (List.mem_of_getElem? (i := 143) rfl) rfl
theorem wl_X6_signAt : Cond.selects RX6 yX6_signAt yX6_signAt ∈ gW := gW_p1 (q := (yX6_signAt, 7)) (List.mem_of_getElem? (i := 6) rfl)
theorem wc_X6_numberAt : Cond.code yX6_numberAt cX6_numberAt 5 (some .int) ∈ gW := gW_3 (List.mem_of_getElem? (i := 148) rfl) rfl
theorem wm_X6_numberAt : Cond.instanceMethod yX6_numberAt ∈ gW := gW_3 (List.mem_of_getElem? (i := 147) rfl) rfl
theorem wl_X6_numberAt : Cond.selects RX6 yX6_numberAt yX6_numberAt ∈ gW := gW_p1 (q := (yX6_numberAt, 7)) (List.mem_of_getElem? (i := 7) rfl)
theorem wc_X7_enter : Cond.code yX7_enter cX7_enter 5 (some .int) ∈ gW := gW_3 (List.mem_of_getElem? (i := 152) rfl) rfl
theorem wm_X7_enter : Cond.instanceMethod yX7_enter ∈ gW := gW_3 (List.mem_of_getElem? (i := 150) rfl) rfl
theorem wl_X7_enter : Cond.selects RX7 yX7_enter yX7_enter ∈ gW := gW_3 (List.mem_of_getElem? (i := 151) rfl) rfl
theorem wc_X8_init : Cond.code yX8_init cX8_init 1 none ∈ gW := gW_3 (List.mem_of_getElem? (i := 157) rfl) rfl
theorem wm_X8_init : Cond.instanceMethod yX8_init ∈ gW := gW_3 (List.mem_of_getElem? (i := 156) rfl) rfl
theorem wc_X8_undo : Cond.code yX8_undo cX8_undo 2 (some .int) ∈ gW := gW_3 (List.mem_of_getElem? (i := 199) rfl) rfl
theorem wm_X8_undo : Cond.instanceMethod yX8_undo ∈ gW := gW_3 (List.mem_of_getElem? (i := 197) rfl) rfl
theorem wl_X8_undo : Cond.selects RX8 yX8_undo yX8_undo ∈ gW := gW_3 (List.mem_of_getElem? (i := 198) rfl) rfl
theorem wc_X8_addMember : Cond.code yX8_addMember cX8_addMember 4 (some .int) ∈ gW := gW_3 (List.mem_of_getElem? (i := 203) rfl) rfl
theorem wm_X8_addMember : Cond.instanceMethod yX8_addMember ∈ gW := gW_3 (List.mem_of_getElem? (i := 201) rfl) rfl
theorem wl_X8_addMember : Cond.selects RX8 yX8_addMember yX8_addMember ∈ gW := gW_3 (List.mem_of_getElem? (i := 202) rfl) rfl
theorem wc_X8_in : Cond.code yX8_in cX8_in 3 (some .boolean) ∈ gW := gW_3 (List.mem_of_getElem? (i := 206) rfl) rfl
theorem ws_X8_in : Cond.static yX8_in ∈ gW := gW_3 (List.mem_of_getElem? (i := 205) rfl) rfl
theorem wc_X8_records : Cond.code yX8_records cX8_records 2 none ∈ gW := gW_3 (List.mem_of_getElem? (i := 210) rfl) rfl
theorem wm_X8_records : Cond.instanceMethod yX8_records ∈ gW := gW_3 (List.mem_of_getElem? (i := 209) rfl) rfl
theorem wl_X8_records : Cond.selects RX8 yX8_records yX8_records ∈ gW := gW_p1 (q := (yX8_records, 12)) (List.mem_of_getElem? (i := 8) rfl)
theorem wc_X8_memberAt : Cond.code yX8_memberAt cX8_memberAt 1 (some .int) ∈ gW := gW_3 (List.mem_of_getElem? (i := 213) rfl) rfl
theorem ws_X8_memberAt : Cond.static yX8_memberAt ∈ gW := gW_3 (List.mem_of_getElem? (i := 212) rfl) rfl
theorem wc_X8_addClause : Cond.code yX8_addClause cX8_addClause 5 (some .int) ∈ gW := gW_3 (List.mem_of_getElem? (i := 217) rfl) rfl
theorem wm_X8_addClause : Cond.instanceMethod yX8_addClause ∈ gW := gW_3 (List.mem_of_getElem? (i := 215) rfl) rfl
theorem wl_X8_addClause : Cond.selects RX8 yX8_addClause yX8_addClause ∈ gW := gW_3 (List.mem_of_getElem? (i := 216) rfl) rfl
theorem wc_X8_isValue : Cond.code yX8_isValue cX8_isValue 1 (some .boolean) ∈ gW := gW_3 (List.mem_of_getElem? (i := 220) rfl) rfl
theorem ws_X8_isValue : Cond.static yX8_isValue ∈ gW := gW_3 (List.mem_of_getElem? (i := 219) rfl) rfl
theorem wc_X8_indexOf : Cond.code yX8_indexOf cX8_indexOf 3 (some .int) ∈ gW := gW_3 (List.mem_of_getElem? (i := 224) rfl) rfl
theorem wm_X8_indexOf : Cond.instanceMethod yX8_indexOf ∈ gW := gW_3 (List.mem_of_getElem? (i := 223) rfl) rfl
theorem wl_X8_indexOf : Cond.selects RX8 yX8_indexOf yX8_indexOf ∈ gW := gW_p1 (q := (yX8_indexOf, 12)) (List.mem_of_getElem? (i := 9) rfl)
theorem wc_X8_clauseAt : Cond.code yX8_clauseAt cX8_clauseAt 1 (some .int) ∈ gW := gW_3 (List.mem_of_getElem? (i := 227) rfl) rfl
theorem ws_X8_clauseAt : Cond.static yX8_clauseAt ∈ gW := gW_3 (List.mem_of_getElem? (i := 226) rfl) rfl
theorem wc_X8_set : Cond.code yX8_set cX8_set 4 (some .int) ∈ gW := gW_3 (List.mem_of_getElem? (i := 231) rfl) rfl
theorem wm_X8_set : Cond.instanceMethod yX8_set ∈ gW := gW_3 (List.mem_of_getElem? (i := 229) rfl) rfl
theorem wl_X8_set : Cond.selects RX8 yX8_set yX8_set ∈ gW := gW_3 (List.mem_of_getElem? (i := 230) rfl) rfl
theorem wc_X8_isSetting : Cond.code yX8_isSetting cX8_isSetting 2 (some .boolean) ∈ gW := gW_3 (List.mem_of_getElem? (i := 234) rfl) rfl
theorem ws_X8_isSetting : Cond.static yX8_isSetting ∈ gW := gW_3 (List.mem_of_getElem? (i := 233) rfl) rfl
theorem wc_X8_member : Cond.code yX8_member cX8_member 4 (some .int) ∈ gW := gW_3 (List.mem_of_getElem? (i := 238) rfl) rfl
theorem wm_X8_member : Cond.instanceMethod yX8_member ∈ gW := gW_3 (List.mem_of_getElem? (i := 236) rfl) rfl
theorem wl_X8_member : Cond.selects RX8 yX8_member yX8_member ∈ gW := gW_3 (List.mem_of_getElem? (i := 237) rfl) rfl
theorem wc_X8_isMember : Cond.code yX8_isMember cX8_isMember 2 (some .boolean) ∈ gW := gW_4 (List.mem_of_getElem? (i := 2) rfl) rfl
theorem wm_X8_isMember : Cond.instanceMethod yX8_isMember ∈ gW := gW_4 (List.mem_of_getElem? (i := 1) rfl) rfl
theorem wl_X8_isMember : Cond.selects RX8 yX8_isMember yX8_isMember ∈ gW := gW_p1 (q := (yX8_isMember, 12)) (List.mem_of_getElem? (i := 10) rfl)
theorem wc_X8_isLapsed : Cond.code yX8_isLapsed cX8_isLapsed 2 (some .boolean) ∈ gW := gW_4 (List.mem_of_getElem? (i := 6) rfl) rfl
theorem wm_X8_isLapsed : Cond.instanceMethod yX8_isLapsed ∈ gW := gW_4 (List.mem_of_getElem? (i := 5) rfl) rfl
theorem wl_X8_isLapsed : Cond.selects RX8 yX8_isLapsed yX8_isLapsed ∈ gW := gW_p1 (q := (yX8_isLapsed, 12)) (List.mem_of_getElem? (i := 11) rfl)
theorem wc_X8_commentsOf : Cond.code yX8_commentsOf cX8_commentsOf 4 (some .int) ∈ gW := gW_4 (List.mem_of_getElem? (i := 10) rfl) rfl
theorem wm_X8_commentsOf : Cond.instanceMethod yX8_commentsOf ∈ gW := gW_4 (List.mem_of_getElem? (i := 9) rfl) rfl
theorem wl_X8_commentsOf : Cond.selects RX8 yX8_commentsOf yX8_commentsOf ∈ gW := gW_p1 (q := (yX8_commentsOf, 12)) (List.mem_of_getElem? (i := 12) rfl)
theorem wc_X8_commentAt : Cond.code yX8_commentAt cX8_commentAt 1 (some .int) ∈ gW := gW_4 (List.mem_of_getElem? (i := 13) rfl) rfl
theorem ws_X8_commentAt : Cond.static yX8_commentAt ∈ gW := gW_4 (List.mem_of_getElem? (i := 12) rfl) rfl
theorem wc_X8_value : Cond.code yX8_value cX8_value 3 (some .int) ∈ gW := gW_4 (List.mem_of_getElem? (i := 17) rfl) rfl
theorem wm_X8_value : Cond.instanceMethod yX8_value ∈ gW := gW_4 (List.mem_of_getElem? (i := 15) rfl) rfl
theorem wl_X8_value : Cond.selects RX8 yX8_value yX8_value ∈ gW := gW_4 (List.mem_of_getElem? (i := 16) rfl) rfl
theorem wc_X8_valueIn : Cond.code yX8_valueIn cX8_valueIn 4 (some .int) ∈ gW := gW_4 (List.mem_of_getElem? (i := 21) rfl) rfl
theorem wm_X8_valueIn : Cond.instanceMethod yX8_valueIn ∈ gW := gW_4 (List.mem_of_getElem? (i := 19) rfl) rfl
theorem wl_X8_valueIn : Cond.selects RX8 yX8_valueIn yX8_valueIn ∈ gW := gW_4 (List.mem_of_getElem? (i := 20) rfl) rfl
theorem wc_X8_isEdition : Cond.code yX8_isEdition cX8_isEdition 2 (some .boolean) ∈ gW := gW_4 (List.mem_of_getElem? (i := 25) rfl) rfl
theorem wm_X8_isEdition : Cond.instanceMethod yX8_isEdition ∈ gW := gW_4 (List.mem_of_getElem? (i := 24) rfl) rfl
theorem wl_X8_isEdition : Cond.selects RX8 yX8_isEdition yX8_isEdition ∈ gW := gW_p1 (q := (yX8_isEdition, 12)) (List.mem_of_getElem? (i := 13) rfl)
theorem wc_X8_clause : Cond.code yX8_clause cX8_clause 2 (some .int) ∈ gW := gW_4 (List.mem_of_getElem? (i := 29) rfl) rfl
theorem wm_X8_clause : Cond.instanceMethod yX8_clause ∈ gW := gW_4 (List.mem_of_getElem? (i := 27) rfl) rfl
theorem wl_X8_clause : Cond.selects RX8 yX8_clause yX8_clause ∈ gW := gW_4 (List.mem_of_getElem? (i := 28) rfl) rfl
theorem wc_X8_count : Cond.code yX8_count cX8_count 2 (some .int) ∈ gW := gW_4 (List.mem_of_getElem? (i := 33) rfl) rfl
theorem wm_X8_count : Cond.instanceMethod yX8_count ∈ gW := gW_4 (List.mem_of_getElem? (i := 31) rfl) rfl
theorem wl_X8_count : Cond.selects RX8 yX8_count yX8_count ∈ gW := gW_4 (List.mem_of_getElem? (i := 32) rfl) rfl
theorem wc_X8_pending : Cond.code yX8_pending cX8_pending 3 (some .int) ∈ gW := gW_4 (List.mem_of_getElem? (i := 37) rfl) rfl
theorem wm_X8_pending : Cond.instanceMethod yX8_pending ∈ gW := gW_4 (List.mem_of_getElem? (i := 36) rfl) rfl
theorem wl_X8_pending : Cond.selects RX8 yX8_pending yX8_pending ∈ gW := gW_p1 (q := (yX8_pending, 12)) (List.mem_of_getElem? (i := 14) rfl)
theorem wc_X8_activeWeight : Cond.code yX8_activeWeight cX8_activeWeight 3 (some .int) ∈ gW := gW_4 (List.mem_of_getElem? (i := 41) rfl) rfl
theorem wm_X8_activeWeight : Cond.instanceMethod yX8_activeWeight ∈ gW := gW_4 (List.mem_of_getElem? (i := 40) rfl) rfl
theorem wl_X8_activeWeight : Cond.selects RX8 yX8_activeWeight yX8_activeWeight ∈ gW := gW_p1 (q := (yX8_activeWeight, 12)) (List.mem_of_getElem? (i := 15) rfl)
theorem wc_X8_open : Cond.code yX8_open cX8_open 2 (some .int) ∈ gW := gW_4 (List.mem_of_getElem? (i := 45) rfl) rfl
theorem wm_X8_open : Cond.instanceMethod yX8_open ∈ gW := gW_4 (List.mem_of_getElem? (i := 43) rfl) rfl
theorem wl_X8_open : Cond.selects RX8 yX8_open yX8_open ∈ gW := gW_4 (List.mem_of_getElem? (i := 44) rfl) rfl
theorem wc_X8_vote : Cond.code yX8_vote cX8_vote 5 (some .int) ∈ gW := gW_4 (List.mem_of_getElem? (i := 49) rfl) rfl
theorem wm_X8_vote : Cond.instanceMethod yX8_vote ∈ gW := gW_4 (List.mem_of_getElem? (i := 47) rfl) rfl
theorem wl_X8_vote : Cond.selects RX8 yX8_vote yX8_vote ∈ gW := gW_4 (List.mem_of_getElem? (i := 48) rfl) rfl
theorem wc_X8_pass : Cond.code yX8_pass cX8_pass 3 (some .int) ∈ gW := gW_4 (List.mem_of_getElem? (i := 53) rfl) rfl
theorem wm_X8_pass : Cond.instanceMethod yX8_pass ∈ gW := gW_4 (List.mem_of_getElem? (i := 51) rfl) rfl
theorem wl_X8_pass : Cond.selects RX8 yX8_pass yX8_pass ∈ gW := gW_4 (List.mem_of_getElem? (i := 52) rfl) rfl
theorem wc_X8_ends : Cond.code yX8_ends cX8_ends 3 (some .boolean) ∈ gW := gW_4 (List.mem_of_getElem? (i := 57) rfl) rfl
theorem wm_X8_ends : Cond.instanceMethod yX8_ends ∈ gW := gW_4 (List.mem_of_getElem? (i := 56) rfl) rfl
theorem wl_X8_ends : Cond.selects RX8 yX8_ends yX8_ends ∈ gW := gW_p2 (q := (yX8_ends, 12)) (List.mem_of_getElem? (i := 0) rfl)
theorem wc_X8_tallies : Cond.code yX8_tallies cX8_tallies 4 none ∈ gW := gW_4 (List.mem_of_getElem? (i := 61) rfl) rfl
theorem wm_X8_tallies : Cond.instanceMethod yX8_tallies ∈ gW := gW_4 (List.mem_of_getElem? (i := 60) rfl) rfl
theorem wl_X8_tallies : Cond.selects RX8 yX8_tallies yX8_tallies ∈ gW := gW_p2 (q := (yX8_tallies, 12)) (List.mem_of_getElem? (i := 1) rfl)
theorem wc_X8_isTechnical : Cond.code yX8_isTechnical cX8_isTechnical 4 (some .boolean) ∈ gW := gW_4 (List.mem_of_getElem? (i := 65) rfl) rfl
theorem wm_X8_isTechnical : Cond.instanceMethod yX8_isTechnical ∈ gW := gW_4 (List.mem_of_getElem? (i := 64) rfl) rfl
theorem wl_X8_isTechnical : Cond.selects RX8 yX8_isTechnical yX8_isTechnical ∈ gW := gW_p2 (q := (yX8_isTechnical, 12)) (List.mem_of_getElem? (i := 2) rfl)
theorem wc_X8_carries : Cond.code yX8_carries cX8_carries 5 (some .boolean) ∈ gW := gW_4 (List.mem_of_getElem? (i := 69) rfl) rfl
theorem wm_X8_carries : Cond.instanceMethod yX8_carries ∈ gW := gW_4 (List.mem_of_getElem? (i := 68) rfl) rfl
theorem wl_X8_carries : Cond.selects RX8 yX8_carries yX8_carries ∈ gW := gW_p2 (q := (yX8_carries, 12)) (List.mem_of_getElem? (i := 3) rfl)
theorem wc_X8_tally : Cond.code yX8_tally cX8_tally 2 (some .int) ∈ gW := gW_4 (List.mem_of_getElem? (i := 73) rfl) rfl
theorem wm_X8_tally : Cond.instanceMethod yX8_tally ∈ gW := gW_4 (List.mem_of_getElem? (i := 71) rfl) rfl
theorem wl_X8_tally : Cond.selects RX8 yX8_tally yX8_tally ∈ gW := gW_4 (List.mem_of_getElem? (i := 72) rfl) rfl
theorem wc_X8_lacking : Cond.code yX8_lacking cX8_lacking 4 (some .int) ∈ gW := gW_4 (List.mem_of_getElem? (i := 77) rfl) rfl
theorem wm_X8_lacking : Cond.instanceMethod yX8_lacking ∈ gW := gW_4 (List.mem_of_getElem? (i := 75) rfl) rfl
theorem wl_X8_lacking : Cond.selects RX8 yX8_lacking yX8_lacking ∈ gW := gW_4 (List.mem_of_getElem? (i := 76) rfl) rfl
theorem wc_X8_comment : Cond.code yX8_comment cX8_comment 6 (some .int) ∈ gW := gW_4 (List.mem_of_getElem? (i := 81) rfl) rfl
theorem wm_X8_comment : Cond.instanceMethod yX8_comment ∈ gW := gW_4 (List.mem_of_getElem? (i := 79) rfl) rfl
theorem wl_X8_comment : Cond.selects RX8 yX8_comment yX8_comment ∈ gW := gW_4 (List.mem_of_getElem? (i := 80) rfl) rfl
theorem wc_X8_comes : Cond.code yX8_comes cX8_comes 7 (some .int) ∈ gW := gW_4 (List.mem_of_getElem? (i := 85) rfl) rfl
theorem wm_X8_comes : Cond.instanceMethod yX8_comes ∈ gW := gW_4 (List.mem_of_getElem? (i := 84) rfl) rfl
theorem wl_X8_comes : Cond.selects RX8 yX8_comes yX8_comes ∈ gW := gW_p2 (q := (yX8_comes, 12)) (List.mem_of_getElem? (i := 4) rfl)
theorem wc_X8_told : Cond.code yX8_told cX8_told 5 (some .int) ∈ gW := gW_4 (List.mem_of_getElem? (i := 89) rfl) rfl
theorem wm_X8_told : Cond.instanceMethod yX8_told ∈ gW := gW_4 (List.mem_of_getElem? (i := 87) rfl) rfl
theorem wl_X8_told : Cond.selects RX8 yX8_told yX8_told ∈ gW := gW_4 (List.mem_of_getElem? (i := 88) rfl) rfl
theorem wc_X8_isComment : Cond.code yX8_isComment cX8_isComment 2 (some .boolean) ∈ gW := gW_4 (List.mem_of_getElem? (i := 93) rfl) rfl
theorem wm_X8_isComment : Cond.instanceMethod yX8_isComment ∈ gW := gW_4 (List.mem_of_getElem? (i := 92) rfl) rfl
theorem wl_X8_isComment : Cond.selects RX8 yX8_isComment yX8_isComment ∈ gW := gW_p2 (q := (yX8_isComment, 12)) (List.mem_of_getElem? (i := 5) rfl)
theorem wc_X8_next : Cond.code yX8_next cX8_next 4 (some .int) ∈ gW := gW_4 (List.mem_of_getElem? (i := 97) rfl) rfl
theorem wm_X8_next : Cond.instanceMethod yX8_next ∈ gW := gW_4 (List.mem_of_getElem? (i := 95) rfl) rfl
theorem wl_X8_next : Cond.selects RX8 yX8_next yX8_next ∈ gW := gW_4 (List.mem_of_getElem? (i := 96) rfl) rfl
theorem wc_X8_isAhead : Cond.code yX8_isAhead cX8_isAhead 7 (some .boolean) ∈ gW := gW_4 (List.mem_of_getElem? (i := 101) rfl) rfl
theorem wm_X8_isAhead : Cond.instanceMethod yX8_isAhead ∈ gW := gW_4 (List.mem_of_getElem? (i := 100) rfl) rfl
theorem wl_X8_isAhead : Cond.selects RX8 yX8_isAhead yX8_isAhead ∈ gW := gW_p2 (q := (yX8_isAhead, 12)) (List.mem_of_getElem? (i := 6) rfl)
theorem wc_X8_resolve : Cond.code yX8_resolve cX8_resolve 8 (some .int) ∈ gW := gW_4 (List.mem_of_getElem? (i := 105) rfl) rfl
theorem wm_X8_resolve : Cond.instanceMethod yX8_resolve ∈ gW := gW_4 (List.mem_of_getElem? (i := 103) rfl) rfl
theorem wl_X8_resolve : Cond.selects RX8 yX8_resolve yX8_resolve ∈ gW := gW_4 (List.mem_of_getElem? (i := 104) rfl) rfl
theorem wc_X8_canGet : Cond.code yX8_canGet cX8_canGet 4 (some .boolean) ∈ gW := gW_4 (List.mem_of_getElem? (i := 110) rfl) rfl
theorem wm_X8_canGet : Cond.instanceMethod yX8_canGet ∈ gW := gW_4 (List.mem_of_getElem? (i := 109) rfl) rfl
theorem wl_X8_canGet : Cond.selects RX8 yX8_canGet yX8_canGet ∈ gW := gW_p2 (q := (yX8_canGet, 12)) (List.mem_of_getElem? (i := 7) rfl)
theorem wc_X8_comesEdition : Cond.code yX8_comesEdition cX8_comesEdition 4 none ∈ gW := gW_4 (List.mem_of_getElem? (i := 114) rfl) rfl
theorem wm_X8_comesEdition : Cond.instanceMethod yX8_comesEdition ∈ gW := gW_4 (List.mem_of_getElem? (i := 113) rfl) rfl
theorem wl_X8_comesEdition : Cond.selects RX8 yX8_comesEdition yX8_comesEdition ∈ gW := gW_p2 (q := (yX8_comesEdition, 12)) (List.mem_of_getElem? (i := 8) rfl)
theorem wc_X8_giver : Cond.code yX8_giver cX8_giver 7 (some .int) ∈ gW := gW_4 (List.mem_of_getElem? (i := 118) rfl) rfl
theorem wm_X8_giver : Cond.instanceMethod yX8_giver ∈ gW := gW_4 (List.mem_of_getElem? (i := 117) rfl) rfl
theorem wl_X8_giver : Cond.selects RX8 yX8_giver yX8_giver ∈ gW := gW_p2 (q := (yX8_giver, 12)) (List.mem_of_getElem? (i := 9) rfl)
theorem wc_X8_appeal : Cond.code yX8_appeal cX8_appeal 8 (some .int) ∈ gW := gW_4 (List.mem_of_getElem? (i := 122) rfl) rfl
theorem wm_X8_appeal : Cond.instanceMethod yX8_appeal ∈ gW := gW_4 (List.mem_of_getElem? (i := 120) rfl) rfl
theorem wl_X8_appeal : Cond.selects RX8 yX8_appeal yX8_appeal ∈ gW := gW_4 (List.mem_of_getElem? (i := 121) rfl) rfl
theorem wc_X8_reopens : Cond.code yX8_reopens cX8_reopens 6 none ∈ gW := gW_4 (List.mem_of_getElem? (i := 126) rfl) rfl
theorem wm_X8_reopens : Cond.instanceMethod yX8_reopens ∈ gW := gW_4 (List.mem_of_getElem? (i := 125) rfl) rfl
theorem wl_X8_reopens : Cond.selects RX8 yX8_reopens yX8_reopens ∈ gW := gW_p2 (q := (yX8_reopens, 12)) (List.mem_of_getElem? (i := 10) rfl)
theorem wc_X8_changes : Cond.code yX8_changes cX8_changes 4 (some .int) ∈ gW := gW_4 (List.mem_of_getElem? (i := 130) rfl) rfl
theorem wm_X8_changes : Cond.instanceMethod yX8_changes ∈ gW := gW_4 (List.mem_of_getElem? (i := 128) rfl) rfl
theorem wl_X8_changes : Cond.selects RX8 yX8_changes yX8_changes ∈ gW := gW_4 (List.mem_of_getElem? (i := 129) rfl) rfl
theorem wc_X8_isChanged : Cond.code yX8_isChanged cX8_isChanged 4 (some .boolean) ∈ gW := gW_4 (List.mem_of_getElem? (i := 134) rfl) rfl
theorem wm_X8_isChanged : Cond.instanceMethod yX8_isChanged ∈ gW := gW_4 (List.mem_of_getElem? (i := 133) rfl) rfl
theorem wl_X8_isChanged : Cond.selects RX8 yX8_isChanged yX8_isChanged ∈ gW := gW_p2 (q := (yX8_isChanged, 12)) (List.mem_of_getElem? (i := 11) rfl)
theorem wc_X8_change : Cond.code yX8_change cX8_change 7 (some .int) ∈ gW := gW_4 (List.mem_of_getElem? (i := 138) rfl) rfl
theorem wm_X8_change : Cond.instanceMethod yX8_change ∈ gW := gW_4 (List.mem_of_getElem? (i := 136) rfl) rfl
theorem wl_X8_change : Cond.selects RX8 yX8_change yX8_change ∈ gW := gW_4 (List.mem_of_getElem? (i := 137) rfl) rfl
theorem wc_X8_type : Cond.code yX8_type cX8_type 2 (some .int) ∈ gW := gW_4 (List.mem_of_getElem? (i := 142) rfl) rfl
theorem wm_X8_type : Cond.instanceMethod yX8_type ∈ gW := gW_4 (List.mem_of_getElem? (i := 140) rfl) rfl
theorem wl_X8_type : Cond.selects RX8 yX8_type yX8_type ∈ gW := gW_4 (List.mem_of_getElem? (i := 141) rfl) rfl
theorem wc_X8_clearText : Cond.code yX8_clearText cX8_clearText 2 (some .int) ∈ gW := gW_4 (List.mem_of_getElem? (i := 146) rfl) rfl
theorem wm_X8_clearText : Cond.instanceMethod yX8_clearText ∈ gW := gW_4 (List.mem_of_getElem? (i := 144) rfl) rfl
theorem wl_X8_clearText : Cond.selects RX8 yX8_clearText yX8_clearText ∈ gW := gW_4 (List.mem_of_getElem? (i := 145) rfl) rfl
theorem wc_X8_fault : Cond.code yX8_fault cX8_fault 2 (some .int) ∈ gW := gW_4 (List.mem_of_getElem? (i := 150) rfl) rfl
theorem wm_X8_fault : Cond.instanceMethod yX8_fault ∈ gW := gW_4 (List.mem_of_getElem? (i := 148) rfl) rfl
theorem wl_X8_fault : Cond.selects RX8 yX8_fault yX8_fault ∈ gW := gW_4 (List.mem_of_getElem? (i := 149) rfl) rfl
theorem wc_X8_hasFault : Cond.code yX8_hasFault cX8_hasFault 5 (some .boolean) ∈ gW := gW_4 (List.mem_of_getElem? (i := 154) rfl) rfl
theorem wm_X8_hasFault : Cond.instanceMethod yX8_hasFault ∈ gW := gW_4 (List.mem_of_getElem? (i := 153) rfl) rfl
theorem wl_X8_hasFault : Cond.selects RX8 yX8_hasFault yX8_hasFault ∈ gW := gW_p2 (q := (yX8_hasFault, 12)) (List.mem_of_getElem? (i := 12) rfl)
theorem wc_X8_readsComment : Cond.code yX8_readsComment cX8_readsComment 1 (some .boolean) ∈ gW := gW_4 (List.mem_of_getElem? (i := 158) rfl) rfl
theorem wm_X8_readsComment : Cond.instanceMethod yX8_readsComment ∈ gW := gW_4 (List.mem_of_getElem? (i := 157) rfl) rfl
theorem wl_X8_readsComment : Cond.selects RX8 yX8_readsComment yX8_readsComment ∈ gW := gW_p2 (q := (yX8_readsComment, 12)) (List.mem_of_getElem? (i := 13) rfl)
theorem wc_X8_readNumber : Cond.code yX8_readNumber cX8_readNumber 4 (some .int) ∈ gW := gW_4 (List.mem_of_getElem? (i := 162) rfl) rfl
theorem wm_X8_readNumber : Cond.instanceMethod yX8_readNumber ∈ gW := gW_4 (List.mem_of_getElem? (i := 161) rfl) rfl
theorem wl_X8_readNumber : Cond.selects RX8 yX8_readNumber yX8_readNumber ∈ gW := gW_p2 (q := (yX8_readNumber, 12)) (List.mem_of_getElem? (i := 14) rfl)
theorem wc_X8_here : Cond.code yX8_here cX8_here 1 (some .int) ∈ gW := gW_4 (List.mem_of_getElem? (i := 166) rfl) rfl
theorem wm_X8_here : Cond.instanceMethod yX8_here ∈ gW := gW_4 (List.mem_of_getElem? (i := 165) rfl) rfl
theorem wl_X8_here : Cond.selects RX8 yX8_here yX8_here ∈ gW := gW_p2 (q := (yX8_here, 12)) (List.mem_of_getElem? (i := 15) rfl)
theorem wc_X8_takes : Cond.code yX8_takes cX8_takes 3 (some .boolean) ∈ gW := gW_4 (List.mem_of_getElem? (i := 170) rfl) rfl
theorem wm_X8_takes : Cond.instanceMethod yX8_takes ∈ gW := gW_4 (List.mem_of_getElem? (i := 169) rfl) rfl
theorem wl_X8_takes : Cond.selects RX8 yX8_takes yX8_takes ∈ gW := gW_p3 (q := (yX8_takes, 12)) (List.mem_of_getElem? (i := 0) rfl)
theorem wc_X8_enter : Cond.code yX8_enter cX8_enter 6 (some .int) ∈ gW := gW_4 (List.mem_of_getElem? (i := 174) rfl) rfl
theorem wm_X8_enter : Cond.instanceMethod yX8_enter ∈ gW := gW_4 (List.mem_of_getElem? (i := 172) rfl) rfl
theorem wl_X8_enter : Cond.selects RX8 yX8_enter yX8_enter ∈ gW := gW_4 (List.mem_of_getElem? (i := 173) rfl) rfl
theorem wf_X4_9 : Cond.fieldLink RX4 9 "CommitteeBallots$Members" "weight" "[I" ∈ gW := gW_1 (List.mem_of_getElem? (i := 33) rfl) rfl
theorem wf_X5_86 : Cond.fieldLink RX5 86 "CommitteeBallots$Members" "weight" "[I" ∈ gW := gW_1 (List.mem_of_getElem? (i := 34) rfl) rfl
theorem wf_X7_88 : Cond.fieldLink RX7 88 "CommitteeBallots$Members" "weight" "[I" ∈ gW := gW_1 (List.mem_of_getElem? (i := 35) rfl) rfl
theorem wf_X1_51 : Cond.fieldLink RX1 51 "CommitteeBallots$Members" "weight" "[I" ∈ gW := gW_1 (List.mem_of_getElem? (i := 36) rfl) rfl
theorem wf_X4_15 : Cond.fieldLink RX4 15 "CommitteeBallots$Members" "misses" "[I" ∈ gW := gW_1 (List.mem_of_getElem? (i := 37) rfl) rfl
theorem wf_X5_72 : Cond.fieldLink RX5 72 "CommitteeBallots$Members" "misses" "[I" ∈ gW := gW_1 (List.mem_of_getElem? (i := 38) rfl) rfl
theorem wf_X7_91 : Cond.fieldLink RX7 91 "CommitteeBallots$Members" "misses" "[I" ∈ gW := gW_1 (List.mem_of_getElem? (i := 39) rfl) rfl
theorem wf_X4_18 : Cond.fieldLink RX4 18 "CommitteeBallots$Members" "given" "[I" ∈ gW := gW_1 (List.mem_of_getElem? (i := 40) rfl) rfl
theorem wf_X7_100 : Cond.fieldLink RX7 100 "CommitteeBallots$Members" "given" "[I" ∈ gW := gW_1 (List.mem_of_getElem? (i := 41) rfl) rfl
theorem wf_X5_106 : Cond.fieldLink RX5 106 "CommitteeBallots$Members" "given" "[I" ∈ gW := gW_1 (List.mem_of_getElem? (i := 42) rfl) rfl
theorem wf_X4_21 : Cond.fieldLink RX4 21 "CommitteeBallots$Members" "ballotsVoted" "[I" ∈ gW := gW_1 (List.mem_of_getElem? (i := 43) rfl) rfl
theorem wf_X7_112 : Cond.fieldLink RX7 112 "CommitteeBallots$Members" "ballotsVoted" "[I" ∈ gW := gW_1 (List.mem_of_getElem? (i := 44) rfl) rfl
theorem wf_X7_34 : Cond.fieldLink RX7 34 "CommitteeBallots$Members" "size" "I" ∈ gW := gW_1 (List.mem_of_getElem? (i := 45) rfl) rfl
theorem wf_X4_28 : Cond.fieldLink RX4 28 "CommitteeBallots$Members" "size" "I" ∈ gW := gW_1 (List.mem_of_getElem? (i := 46) rfl) rfl
theorem wf_X5_75 : Cond.fieldLink RX5 75 "CommitteeBallots$Members" "size" "I" ∈ gW := gW_1 (List.mem_of_getElem? (i := 47) rfl) rfl
theorem wf_X2_9 : Cond.fieldLink RX2 9 "CommitteeBallots$Document" "number" "[I" ∈ gW := gW_1 (List.mem_of_getElem? (i := 66) rfl) rfl
theorem wf_X7_128 : Cond.fieldLink RX7 128 "CommitteeBallots$Document" "number" "[I" ∈ gW := gW_1 (List.mem_of_getElem? (i := 67) rfl) rfl
theorem wf_X2_15 : Cond.fieldLink RX2 15 "CommitteeBallots$Document" "present" "[I" ∈ gW := gW_1 (List.mem_of_getElem? (i := 68) rfl) rfl
theorem wf_X7_115 : Cond.fieldLink RX7 115 "CommitteeBallots$Document" "present" "[I" ∈ gW := gW_1 (List.mem_of_getElem? (i := 69) rfl) rfl
theorem wf_X5_115 : Cond.fieldLink RX5 115 "CommitteeBallots$Document" "present" "[I" ∈ gW := gW_1 (List.mem_of_getElem? (i := 70) rfl) rfl
theorem wf_X2_18 : Cond.fieldLink RX2 18 "CommitteeBallots$Document" "atOpening" "[I" ∈ gW := gW_1 (List.mem_of_getElem? (i := 71) rfl) rfl
theorem wf_X5_118 : Cond.fieldLink RX5 118 "CommitteeBallots$Document" "atOpening" "[I" ∈ gW := gW_1 (List.mem_of_getElem? (i := 72) rfl) rfl
theorem wf_X2_21 : Cond.fieldLink RX2 21 "CommitteeBallots$Document" "ballotBehind" "[I" ∈ gW := gW_1 (List.mem_of_getElem? (i := 73) rfl) rfl
theorem wf_X5_170 : Cond.fieldLink RX5 170 "CommitteeBallots$Document" "ballotBehind" "[I" ∈ gW := gW_1 (List.mem_of_getElem? (i := 74) rfl) rfl
theorem wf_X7_237 : Cond.fieldLink RX7 237 "CommitteeBallots$Document" "ballotBehind" "[I" ∈ gW := gW_1 (List.mem_of_getElem? (i := 75) rfl) rfl
theorem wf_X2_24 : Cond.fieldLink RX2 24 "CommitteeBallots$Document" "inEdition" "[I" ∈ gW := gW_1 (List.mem_of_getElem? (i := 76) rfl) rfl
theorem wf_X7_121 : Cond.fieldLink RX7 121 "CommitteeBallots$Document" "inEdition" "[I" ∈ gW := gW_1 (List.mem_of_getElem? (i := 77) rfl) rfl
theorem wf_X5_178 : Cond.fieldLink RX5 178 "CommitteeBallots$Document" "inEdition" "[I" ∈ gW := gW_1 (List.mem_of_getElem? (i := 78) rfl) rfl
theorem wf_X2_27 : Cond.fieldLink RX2 27 "CommitteeBallots$Document" "commentBehind" "[I" ∈ gW := gW_1 (List.mem_of_getElem? (i := 79) rfl) rfl
theorem wf_X5_181 : Cond.fieldLink RX5 181 "CommitteeBallots$Document" "commentBehind" "[I" ∈ gW := gW_1 (List.mem_of_getElem? (i := 80) rfl) rfl
theorem wf_X7_240 : Cond.fieldLink RX7 240 "CommitteeBallots$Document" "commentBehind" "[I" ∈ gW := gW_1 (List.mem_of_getElem? (i := 81) rfl) rfl
theorem wf_X2_38 : Cond.fieldLink RX2 38 "CommitteeBallots$Document" "size" "I" ∈ gW := gW_1 (List.mem_of_getElem? (i := 82) rfl) rfl
theorem wf_X7_70 : Cond.fieldLink RX7 70 "CommitteeBallots$Document" "size" "I" ∈ gW := gW_1 (List.mem_of_getElem? (i := 83) rfl) rfl
theorem wf_X5_173 : Cond.fieldLink RX5 173 "CommitteeBallots$Document" "size" "I" ∈ gW := gW_1 (List.mem_of_getElem? (i := 84) rfl) rfl
theorem wf_X2_30 : Cond.fieldLink RX2 30 "CommitteeBallots$Document" "edition" "I" ∈ gW := gW_1 (List.mem_of_getElem? (i := 85) rfl) rfl
theorem wf_X7_130 : Cond.fieldLink RX7 130 "CommitteeBallots$Document" "edition" "I" ∈ gW := gW_1 (List.mem_of_getElem? (i := 86) rfl) rfl
theorem wf_X5_167 : Cond.fieldLink RX5 167 "CommitteeBallots$Document" "edition" "I" ∈ gW := gW_1 (List.mem_of_getElem? (i := 87) rfl) rfl
theorem wf_X0_9 : Cond.fieldLink RX0 9 "CommitteeBallots$Ballot" "sums" "[I" ∈ gW := gW_1 (List.mem_of_getElem? (i := 111) rfl) rfl
theorem wf_X5_121 : Cond.fieldLink RX5 121 "CommitteeBallots$Ballot" "sums" "[I" ∈ gW := gW_1 (List.mem_of_getElem? (i := 112) rfl) rfl
theorem wf_X7_164 : Cond.fieldLink RX7 164 "CommitteeBallots$Ballot" "sums" "[I" ∈ gW := gW_1 (List.mem_of_getElem? (i := 113) rfl) rfl
theorem wf_X0_19 : Cond.fieldLink RX0 19 "CommitteeBallots$Ballot" "isOpen" "Z" ∈ gW := gW_1 (List.mem_of_getElem? (i := 114) rfl) rfl
theorem wf_X5_89 : Cond.fieldLink RX5 89 "CommitteeBallots$Ballot" "isOpen" "Z" ∈ gW := gW_1 (List.mem_of_getElem? (i := 115) rfl) rfl
theorem wf_X7_136 : Cond.fieldLink RX7 136 "CommitteeBallots$Ballot" "isOpen" "Z" ∈ gW := gW_1 (List.mem_of_getElem? (i := 116) rfl) rfl
theorem wf_X0_23 : Cond.fieldLink RX0 23 "CommitteeBallots$Ballot" "broughtEdition" "Z" ∈ gW := gW_1 (List.mem_of_getElem? (i := 117) rfl) rfl
theorem wf_X5_93 : Cond.fieldLink RX5 93 "CommitteeBallots$Ballot" "broughtEdition" "Z" ∈ gW := gW_1 (List.mem_of_getElem? (i := 118) rfl) rfl
theorem wf_X0_26 : Cond.fieldLink RX0 26 "CommitteeBallots$Ballot" "number" "I" ∈ gW := gW_1 (List.mem_of_getElem? (i := 119) rfl) rfl
theorem wf_X7_56 : Cond.fieldLink RX7 56 "CommitteeBallots$Ballot" "number" "I" ∈ gW := gW_1 (List.mem_of_getElem? (i := 120) rfl) rfl
theorem wf_X5_96 : Cond.fieldLink RX5 96 "CommitteeBallots$Ballot" "number" "I" ∈ gW := gW_1 (List.mem_of_getElem? (i := 121) rfl) rfl
theorem wf_X0_30 : Cond.fieldLink RX0 30 "CommitteeBallots$Ballot" "lastDay" "I" ∈ gW := gW_1 (List.mem_of_getElem? (i := 122) rfl) rfl
theorem wf_X5_99 : Cond.fieldLink RX5 99 "CommitteeBallots$Ballot" "lastDay" "I" ∈ gW := gW_1 (List.mem_of_getElem? (i := 123) rfl) rfl
theorem wf_X7_152 : Cond.fieldLink RX7 152 "CommitteeBallots$Ballot" "lastDay" "I" ∈ gW := gW_1 (List.mem_of_getElem? (i := 124) rfl) rfl
theorem wf_X1_9 : Cond.fieldLink RX1 9 "CommitteeBallots$Comments" "member" "[I" ∈ gW := gW_1 (List.mem_of_getElem? (i := 142) rfl) rfl
theorem wf_X7_182 : Cond.fieldLink RX7 182 "CommitteeBallots$Comments" "member" "[I" ∈ gW := gW_1 (List.mem_of_getElem? (i := 143) rfl) rfl
theorem wf_X1_15 : Cond.fieldLink RX1 15 "CommitteeBallots$Comments" "place" "[I" ∈ gW := gW_1 (List.mem_of_getElem? (i := 144) rfl) rfl
theorem wf_X5_153 : Cond.fieldLink RX5 153 "CommitteeBallots$Comments" "place" "[I" ∈ gW := gW_1 (List.mem_of_getElem? (i := 145) rfl) rfl
theorem wf_X7_185 : Cond.fieldLink RX7 185 "CommitteeBallots$Comments" "place" "[I" ∈ gW := gW_1 (List.mem_of_getElem? (i := 146) rfl) rfl
theorem wf_X1_18 : Cond.fieldLink RX1 18 "CommitteeBallots$Comments" "kind" "[I" ∈ gW := gW_1 (List.mem_of_getElem? (i := 147) rfl) rfl
theorem wf_X7_188 : Cond.fieldLink RX7 188 "CommitteeBallots$Comments" "kind" "[I" ∈ gW := gW_1 (List.mem_of_getElem? (i := 148) rfl) rfl
theorem wf_X1_21 : Cond.fieldLink RX1 21 "CommitteeBallots$Comments" "proposed" "[I" ∈ gW := gW_1 (List.mem_of_getElem? (i := 149) rfl) rfl
theorem wf_X7_191 : Cond.fieldLink RX7 191 "CommitteeBallots$Comments" "proposed" "[I" ∈ gW := gW_1 (List.mem_of_getElem? (i := 150) rfl) rfl
theorem wf_X1_24 : Cond.fieldLink RX1 24 "CommitteeBallots$Comments" "standing" "[I" ∈ gW := gW_1 (List.mem_of_getElem? (i := 151) rfl) rfl
theorem wf_X5_187 : Cond.fieldLink RX5 187 "CommitteeBallots$Comments" "standing" "[I" ∈ gW := gW_1 (List.mem_of_getElem? (i := 152) rfl) rfl
theorem wf_X7_194 : Cond.fieldLink RX7 194 "CommitteeBallots$Comments" "standing" "[I" ∈ gW := gW_1 (List.mem_of_getElem? (i := 153) rfl) rfl
theorem wf_X1_27 : Cond.fieldLink RX1 27 "CommitteeBallots$Comments" "day" "[I" ∈ gW := gW_1 (List.mem_of_getElem? (i := 154) rfl) rfl
theorem wf_X7_200 : Cond.fieldLink RX7 200 "CommitteeBallots$Comments" "day" "[I" ∈ gW := gW_1 (List.mem_of_getElem? (i := 155) rfl) rfl
theorem wf_X1_30 : Cond.fieldLink RX1 30 "CommitteeBallots$Comments" "gave" "[I" ∈ gW := gW_1 (List.mem_of_getElem? (i := 156) rfl) rfl
theorem wf_X7_206 : Cond.fieldLink RX7 206 "CommitteeBallots$Comments" "gave" "[I" ∈ gW := gW_1 (List.mem_of_getElem? (i := 157) rfl) rfl
theorem wf_X1_33 : Cond.fieldLink RX1 33 "CommitteeBallots$Comments" "turn" "[I" ∈ gW := gW_1 (List.mem_of_getElem? (i := 158) rfl) rfl
theorem wf_X1_40 : Cond.fieldLink RX1 40 "CommitteeBallots$Comments" "size" "I" ∈ gW := gW_1 (List.mem_of_getElem? (i := 159) rfl) rfl
theorem wf_X5_102 : Cond.fieldLink RX5 102 "CommitteeBallots$Comments" "size" "I" ∈ gW := gW_1 (List.mem_of_getElem? (i := 160) rfl) rfl
theorem wf_X7_140 : Cond.fieldLink RX7 140 "CommitteeBallots$Comments" "size" "I" ∈ gW := gW_1 (List.mem_of_getElem? (i := 161) rfl) rfl
theorem wf_X1_44 : Cond.fieldLink RX1 44 "CommitteeBallots$Comments" "turns" "I" ∈ gW := gW_1 (List.mem_of_getElem? (i := 162) rfl) rfl
theorem wf_X5_103 : Cond.fieldLink RX5 103 "CommitteeBallots$Comments" "turns" "I" ∈ gW := gW_1 (List.mem_of_getElem? (i := 163) rfl) rfl
theorem wf_X5_12 : Cond.fieldLink RX5 12 "CommitteeBallots$State" "members" "LCommitteeBallots$Members;" ∈ gW := gW_1 (List.mem_of_getElem? (i := 194) rfl) rfl
theorem wf_X7_30 : Cond.fieldLink RX7 30 "CommitteeBallots$State" "members" "LCommitteeBallots$Members;" ∈ gW := gW_1 (List.mem_of_getElem? (i := 195) rfl) rfl
theorem wf_X5_21 : Cond.fieldLink RX5 21 "CommitteeBallots$State" "document" "LCommitteeBallots$Document;" ∈ gW := gW_1 (List.mem_of_getElem? (i := 196) rfl) rfl
theorem wf_X7_61 : Cond.fieldLink RX7 61 "CommitteeBallots$State" "document" "LCommitteeBallots$Document;" ∈ gW := gW_1 (List.mem_of_getElem? (i := 197) rfl) rfl
theorem wf_X5_28 : Cond.fieldLink RX5 28 "CommitteeBallots$State" "ballot" "LCommitteeBallots$Ballot;" ∈ gW := gW_1 (List.mem_of_getElem? (i := 198) rfl) rfl
theorem wf_X7_52 : Cond.fieldLink RX7 52 "CommitteeBallots$State" "ballot" "LCommitteeBallots$Ballot;" ∈ gW := gW_1 (List.mem_of_getElem? (i := 199) rfl) rfl
theorem wf_X5_35 : Cond.fieldLink RX5 35 "CommitteeBallots$State" "comments" "LCommitteeBallots$Comments;" ∈ gW := gW_1 (List.mem_of_getElem? (i := 200) rfl) rfl
theorem wf_X7_103 : Cond.fieldLink RX7 103 "CommitteeBallots$State" "comments" "LCommitteeBallots$Comments;" ∈ gW := gW_1 (List.mem_of_getElem? (i := 201) rfl) rfl
theorem wf_X5_48 : Cond.fieldLink RX5 48 "CommitteeBallots$State" "settings" "[I" ∈ gW := gW_1 (List.mem_of_getElem? (i := 202) rfl) rfl
theorem wf_X7_82 : Cond.fieldLink RX7 82 "CommitteeBallots$State" "settings" "[I" ∈ gW := gW_1 (List.mem_of_getElem? (i := 203) rfl) rfl
theorem wf_X5_68 : Cond.fieldLink RX5 68 "CommitteeBallots$State" "today" "I" ∈ gW := gW_1 (List.mem_of_getElem? (i := 204) rfl) rfl
theorem wf_X7_133 : Cond.fieldLink RX7 133 "CommitteeBallots$State" "today" "I" ∈ gW := gW_1 (List.mem_of_getElem? (i := 205) rfl) rfl
theorem wf_X3_11 : Cond.fieldLink RX3 11 "CommitteeBallots$History" "states" "[LCommitteeBallots$State;" ∈ gW := gW_1 (List.mem_of_getElem? (i := 228) rfl) rfl
theorem wf_X3_18 : Cond.fieldLink RX3 18 "CommitteeBallots$History" "oldest" "I" ∈ gW := gW_1 (List.mem_of_getElem? (i := 229) rfl) rfl
theorem wf_X3_22 : Cond.fieldLink RX3 22 "CommitteeBallots$History" "size" "I" ∈ gW := gW_1 (List.mem_of_getElem? (i := 230) rfl) rfl
theorem wf_X7_148 : Cond.fieldLink RX7 148 "CommitteeBallots$History" "size" "I" ∈ gW := gW_1 (List.mem_of_getElem? (i := 231) rfl) rfl
theorem wf_X6_9 : Cond.fieldLink RX6 9 "CommitteeBallots$Text" "signs" "[C" ∈ gW := gW_2 (List.mem_of_getElem? (i := 5) rfl) rfl
theorem wf_X6_15 : Cond.fieldLink RX6 15 "CommitteeBallots$Text" "length" "I" ∈ gW := gW_2 (List.mem_of_getElem? (i := 6) rfl) rfl
theorem wf_X7_149 : Cond.fieldLink RX7 149 "CommitteeBallots$Text" "length" "I" ∈ gW := gW_2 (List.mem_of_getElem? (i := 7) rfl) rfl
theorem wf_X6_19 : Cond.fieldLink RX6 19 "CommitteeBallots$Text" "start" "I" ∈ gW := gW_2 (List.mem_of_getElem? (i := 8) rfl) rfl
theorem wf_X7_252 : Cond.fieldLink RX7 252 "CommitteeBallots$Text" "start" "I" ∈ gW := gW_2 (List.mem_of_getElem? (i := 9) rfl) rfl
theorem wf_X6_22 : Cond.fieldLink RX6 22 "CommitteeBallots$Text" "end" "I" ∈ gW := gW_2 (List.mem_of_getElem? (i := 10) rfl) rfl
theorem wf_X6_32 : Cond.fieldLink RX6 32 "CommitteeBallots$Text" "clause" "I" ∈ gW := gW_2 (List.mem_of_getElem? (i := 11) rfl) rfl
theorem wf_X7_262 : Cond.fieldLink RX7 262 "CommitteeBallots$Text" "clause" "I" ∈ gW := gW_2 (List.mem_of_getElem? (i := 12) rfl) rfl
theorem wf_X6_39 : Cond.fieldLink RX6 39 "CommitteeBallots$Text" "kind" "I" ∈ gW := gW_2 (List.mem_of_getElem? (i := 13) rfl) rfl
theorem wf_X7_265 : Cond.fieldLink RX7 265 "CommitteeBallots$Text" "kind" "I" ∈ gW := gW_2 (List.mem_of_getElem? (i := 14) rfl) rfl
theorem wf_X6_42 : Cond.fieldLink RX6 42 "CommitteeBallots$Text" "proposed" "I" ∈ gW := gW_2 (List.mem_of_getElem? (i := 15) rfl) rfl
theorem wf_X7_267 : Cond.fieldLink RX7 267 "CommitteeBallots$Text" "proposed" "I" ∈ gW := gW_2 (List.mem_of_getElem? (i := 16) rfl) rfl
theorem wf_X7_10 : Cond.fieldLink RX7 10 "CommitteeBallots" "now" "LCommitteeBallots$State;" ∈ gW := gW_2 (List.mem_of_getElem? (i := 33) rfl) rfl
theorem wf_X7_19 : Cond.fieldLink RX7 19 "CommitteeBallots" "history" "LCommitteeBallots$History;" ∈ gW := gW_2 (List.mem_of_getElem? (i := 34) rfl) rfl
theorem wf_X7_26 : Cond.fieldLink RX7 26 "CommitteeBallots" "text" "LCommitteeBallots$Text;" ∈ gW := gW_2 (List.mem_of_getElem? (i := 35) rfl) rfl
theorem wf_X7_75 : Cond.fieldLink RX7 75 "CommitteeBallots" "LEAST_SETTINGS" "[I" ∈ gW := gW_2 (List.mem_of_getElem? (i := 110) rfl) rfl
theorem wf_X7_79 : Cond.fieldLink RX7 79 "CommitteeBallots" "GREATEST_SETTINGS" "[I" ∈ gW := gW_2 (List.mem_of_getElem? (i := 112) rfl) rfl
theorem wf_X8_7 : Cond.fieldLink RX8 7 "CommitteeBallotsModel" "now" "[I" ∈ gW := gW_3 (List.mem_of_getElem? (i := 159) rfl) rfl
theorem wf_X8_13 : Cond.fieldLink RX8 13 "CommitteeBallotsModel" "past" "[I" ∈ gW := gW_3 (List.mem_of_getElem? (i := 160) rfl) rfl
theorem wf_X8_19 : Cond.fieldLink RX8 19 "CommitteeBallotsModel" "saved" "I" ∈ gW := gW_3 (List.mem_of_getElem? (i := 161) rfl) rfl
theorem wf_X8_16 : Cond.fieldLink RX8 16 "CommitteeBallotsModel" "text" "[I" ∈ gW := gW_3 (List.mem_of_getElem? (i := 162) rfl) rfl
theorem wf_X8_70 : Cond.fieldLink RX8 70 "CommitteeBallotsModel" "length" "I" ∈ gW := gW_3 (List.mem_of_getElem? (i := 163) rfl) rfl
theorem wf_X8_117 : Cond.fieldLink RX8 117 "CommitteeBallotsModel" "spot" "I" ∈ gW := gW_3 (List.mem_of_getElem? (i := 164) rfl) rfl
theorem wf_X8_126 : Cond.fieldLink RX8 126 "CommitteeBallotsModel" "readClause" "I" ∈ gW := gW_3 (List.mem_of_getElem? (i := 165) rfl) rfl
theorem wf_X8_129 : Cond.fieldLink RX8 129 "CommitteeBallotsModel" "readKind" "I" ∈ gW := gW_3 (List.mem_of_getElem? (i := 166) rfl) rfl
theorem wf_X8_135 : Cond.fieldLink RX8 135 "CommitteeBallotsModel" "readValue" "I" ∈ gW := gW_3 (List.mem_of_getElem? (i := 167) rfl) rfl
theorem wf_X8_144 : Cond.fieldLink RX8 144 "CommitteeBallotsModel" "faultAt" "I" ∈ gW := gW_3 (List.mem_of_getElem? (i := 168) rfl) rfl
theorem wf_X8_147 : Cond.fieldLink RX8 147 "CommitteeBallotsModel" "faultWhy" "I" ∈ gW := gW_3 (List.mem_of_getElem? (i := 169) rfl) rfl
theorem wf_X8_138 : Cond.fieldLink RX8 138 "CommitteeBallotsModel" "readMany" "I" ∈ gW := gW_3 (List.mem_of_getElem? (i := 170) rfl) rfl
theorem wk_L_9 : Cond.methodLink RL 9 yX7_init ∈ gW := gW_1 (List.mem_of_getElem? (i := 15) rfl) rfl
theorem wk_X7_1 : Cond.methodLink RX7 1 ⟨"java/lang/Object", "<init>", "()V"⟩ ∈ gW := gW_1 (List.mem_of_getElem? (i := 18) rfl) rfl
theorem wk_X5_3 : Cond.methodLink RX5 3 ⟨"java/lang/Object", "<init>", "()V"⟩ ∈ gW := gW_1 (List.mem_of_getElem? (i := 26) rfl) rfl
theorem wk_X4_3 : Cond.methodLink RX4 3 ⟨"java/lang/Object", "<init>", "()V"⟩ ∈ gW := gW_1 (List.mem_of_getElem? (i := 32) rfl) rfl
theorem wk_X2_3 : Cond.methodLink RX2 3 ⟨"java/lang/Object", "<init>", "()V"⟩ ∈ gW := gW_1 (List.mem_of_getElem? (i := 65) rfl) rfl
theorem wk_X0_3 : Cond.methodLink RX0 3 ⟨"java/lang/Object", "<init>", "()V"⟩ ∈ gW := gW_1 (List.mem_of_getElem? (i := 110) rfl) rfl
theorem wk_X1_3 : Cond.methodLink RX1 3 ⟨"java/lang/Object", "<init>", "()V"⟩ ∈ gW := gW_1 (List.mem_of_getElem? (i := 141) rfl) rfl
theorem wk_X5_43 : Cond.methodLink RX5 43 ⟨"[I", "clone", "()Ljava/lang/Object;"⟩ ∈ gW := gW_1 (List.mem_of_getElem? (i := 187) rfl) rfl
theorem wk_X7_18 : Cond.methodLink RX7 18 yX3_init ∈ gW := gW_1 (List.mem_of_getElem? (i := 221) rfl) rfl
theorem wk_X3_3 : Cond.methodLink RX3 3 ⟨"java/lang/Object", "<init>", "()V"⟩ ∈ gW := gW_1 (List.mem_of_getElem? (i := 224) rfl) rfl
theorem wk_X6_3 : Cond.methodLink RX6 3 ⟨"java/lang/Object", "<init>", "()V"⟩ ∈ gW := gW_2 (List.mem_of_getElem? (i := 4) rfl) rfl
theorem wk_L_13 : Cond.methodLink RL 13 yX7_addMember ∈ gW := gW_2 (List.mem_of_getElem? (i := 43) rfl) rfl
theorem wk_X7_40 : Cond.methodLink RX7 40 yX3_keep ∈ gW := gW_2 (List.mem_of_getElem? (i := 47) rfl) rfl
theorem wk_X3_25 : Cond.methodLink RX3 25 yX5_copyFrom ∈ gW := gW_2 (List.mem_of_getElem? (i := 51) rfl) rfl
theorem wk_X5_51 : Cond.methodLink RX5 51 yX4_copyFrom ∈ gW := gW_2 (List.mem_of_getElem? (i := 55) rfl) rfl
theorem wk_X7_272 : Cond.methodLink RX7 272 yJ9_min_7cf53 ∈ gW := gW_2 (List.mem_of_getElem? (i := 62) rfl) rfl
theorem wk_X7_275 : Cond.methodLink RX7 275 ⟨"java/lang/System", "arraycopy", "(Ljava/lang/Object;ILjava/lang/Object;II)V"⟩ ∈ gW := gW_2 (List.mem_of_getElem? (i := 65) rfl) rfl
theorem wk_X5_55 : Cond.methodLink RX5 55 yX2_copyFrom ∈ gW := gW_2 (List.mem_of_getElem? (i := 68) rfl) rfl
theorem wk_X5_58 : Cond.methodLink RX5 58 yX0_copyFrom ∈ gW := gW_2 (List.mem_of_getElem? (i := 73) rfl) rfl
theorem wk_X5_61 : Cond.methodLink RX5 61 yX1_copyFrom ∈ gW := gW_2 (List.mem_of_getElem? (i := 78) rfl) rfl
theorem wk_X7_44 : Cond.methodLink RX7 44 yX4_append ∈ gW := gW_2 (List.mem_of_getElem? (i := 84) rfl) rfl
theorem wk_L_18 : Cond.methodLink RL 18 yX7_addClause ∈ gW := gW_2 (List.mem_of_getElem? (i := 88) rfl) rfl
theorem wk_X7_48 : Cond.methodLink RX7 48 yX7_isValue ∈ gW := gW_2 (List.mem_of_getElem? (i := 92) rfl) rfl
theorem wk_X7_65 : Cond.methodLink RX7 65 yX2_find ∈ gW := gW_2 (List.mem_of_getElem? (i := 95) rfl) rfl
theorem wk_X7_71 : Cond.methodLink RX7 71 yX2_insert ∈ gW := gW_2 (List.mem_of_getElem? (i := 99) rfl) rfl
theorem wk_X2_41 : Cond.methodLink RX2 41 yX2_slot ∈ gW := gW_2 (List.mem_of_getElem? (i := 103) rfl) rfl
theorem wk_L_23 : Cond.methodLink RL 23 yX7_set ∈ gW := gW_2 (List.mem_of_getElem? (i := 106) rfl) rfl
theorem wk_L_27 : Cond.methodLink RL 27 yX7_member ∈ gW := gW_2 (List.mem_of_getElem? (i := 114) rfl) rfl
theorem wk_X7_85 : Cond.methodLink RX7 85 yX4_has ∈ gW := gW_2 (List.mem_of_getElem? (i := 118) rfl) rfl
theorem wk_X7_94 : Cond.methodLink RX7 94 yX5_isLapsed ∈ gW := gW_2 (List.mem_of_getElem? (i := 122) rfl) rfl
theorem wk_X7_97 : Cond.methodLink RX7 97 yX4_hasVoted ∈ gW := gW_2 (List.mem_of_getElem? (i := 126) rfl) rfl
theorem wk_X7_107 : Cond.methodLink RX7 107 yX1_numberOf ∈ gW := gW_2 (List.mem_of_getElem? (i := 130) rfl) rfl
theorem wk_L_31 : Cond.methodLink RL 31 yX7_value ∈ gW := gW_2 (List.mem_of_getElem? (i := 134) rfl) rfl
theorem wk_L_35 : Cond.methodLink RL 35 yX7_valueIn ∈ gW := gW_2 (List.mem_of_getElem? (i := 138) rfl) rfl
theorem wk_X7_118 : Cond.methodLink RX7 118 yX2_hasEdition ∈ gW := gW_2 (List.mem_of_getElem? (i := 142) rfl) rfl
theorem wk_X7_124 : Cond.methodLink RX7 124 yX2_slot ∈ gW := gW_2 (List.mem_of_getElem? (i := 146) rfl) rfl
theorem wk_L_39 : Cond.methodLink RL 39 yX7_clause ∈ gW := gW_2 (List.mem_of_getElem? (i := 147) rfl) rfl
theorem wk_L_43 : Cond.methodLink RL 43 yX7_count ∈ gW := gW_2 (List.mem_of_getElem? (i := 151) rfl) rfl
theorem wk_X7_141 : Cond.methodLink RX7 141 yX1_pending ∈ gW := gW_2 (List.mem_of_getElem? (i := 155) rfl) rfl
theorem wk_X7_145 : Cond.methodLink RX7 145 yX5_activeWeight ∈ gW := gW_2 (List.mem_of_getElem? (i := 159) rfl) rfl
theorem wk_X5_78 : Cond.methodLink RX5 78 yX5_activeWeightIn ∈ gW := gW_2 (List.mem_of_getElem? (i := 163) rfl) rfl
theorem wk_X5_82 : Cond.methodLink RX5 82 yX5_isLapsed ∈ gW := gW_2 (List.mem_of_getElem? (i := 167) rfl) rfl
theorem wk_L_47 : Cond.methodLink RL 47 yX7_open ∈ gW := gW_2 (List.mem_of_getElem? (i := 168) rfl) rfl
theorem wk_X7_155 : Cond.methodLink RX7 155 yX5_openBallot ∈ gW := gW_2 (List.mem_of_getElem? (i := 172) rfl) rfl
theorem wk_X5_109 : Cond.methodLink RX5 109 yJ7_fill_53178 ∈ gW := gW_2 (List.mem_of_getElem? (i := 176) rfl) rfl
theorem wk_L_52 : Cond.methodLink RL 52 yX7_vote ∈ gW := gW_2 (List.mem_of_getElem? (i := 179) rfl) rfl
theorem wk_X7_158 : Cond.methodLink RX7 158 yX4_voters ∈ gW := gW_2 (List.mem_of_getElem? (i := 183) rfl) rfl
theorem wk_X4_32 : Cond.methodLink RX4 32 yX4_hasVoted ∈ gW := gW_2 (List.mem_of_getElem? (i := 187) rfl) rfl
theorem wk_L_56 : Cond.methodLink RL 56 yX7_pass ∈ gW := gW_2 (List.mem_of_getElem? (i := 188) rfl) rfl
theorem wk_X7_161 : Cond.methodLink RX7 161 yX5_endBallot ∈ gW := gW_2 (List.mem_of_getElem? (i := 192) rfl) rfl
theorem wk_X5_137 : Cond.methodLink RX5 137 yX5_countVotes ∈ gW := gW_2 (List.mem_of_getElem? (i := 196) rfl) rfl
theorem wk_X5_124 : Cond.methodLink RX5 124 yX4_hasVoted ∈ gW := gW_2 (List.mem_of_getElem? (i := 200) rfl) rfl
theorem wk_X5_127 : Cond.methodLink RX5 127 yX5_sumFor ∈ gW := gW_2 (List.mem_of_getElem? (i := 201) rfl) rfl
theorem wk_X5_134 : Cond.methodLink RX5 134 yX1_hasTechnicalOf ∈ gW := gW_2 (List.mem_of_getElem? (i := 205) rfl) rfl
theorem wk_X5_130 : Cond.methodLink RX5 130 yX5_isCarriedBy ∈ gW := gW_2 (List.mem_of_getElem? (i := 209) rfl) rfl
theorem wk_X5_140 : Cond.methodLink RX5 140 yX4_noteMisses ∈ gW := gW_2 (List.mem_of_getElem? (i := 213) rfl) rfl
theorem wk_X5_143 : Cond.methodLink RX5 143 yX1_makeAllPending ∈ gW := gW_2 (List.mem_of_getElem? (i := 217) rfl) rfl
theorem wk_L_60 : Cond.methodLink RL 60 yX7_tally ∈ gW := gW_2 (List.mem_of_getElem? (i := 221) rfl) rfl
theorem wk_X7_167 : Cond.methodLink RX7 167 yX5_countVotes ∈ gW := gW_2 (List.mem_of_getElem? (i := 225) rfl) rfl
theorem wk_L_64 : Cond.methodLink RL 64 yX7_lacking ∈ gW := gW_2 (List.mem_of_getElem? (i := 226) rfl) rfl
theorem wk_X7_170 : Cond.methodLink RX7 170 yX7_dividedUp ∈ gW := gW_2 (List.mem_of_getElem? (i := 230) rfl) rfl
theorem wk_X7_173 : Cond.methodLink RX7 173 yJ9_max_7cf53 ∈ gW := gW_2 (List.mem_of_getElem? (i := 233) rfl) rfl
theorem wk_L_68 : Cond.methodLink RL 68 yX7_comment ∈ gW := gW_2 (List.mem_of_getElem? (i := 236) rfl) rfl
theorem wk_X7_178 : Cond.methodLink RX7 178 yX1_append ∈ gW := gW_3 (List.mem_of_getElem? (i := 0) rfl) rfl
theorem wk_L_73 : Cond.methodLink RL 73 yX7_told ∈ gW := gW_3 (List.mem_of_getElem? (i := 4) rfl) rfl
theorem wk_X7_181 : Cond.methodLink RX7 181 yX1_has ∈ gW := gW_3 (List.mem_of_getElem? (i := 8) rfl) rfl
theorem wk_X7_197 : Cond.methodLink RX7 197 yX1_isResolved ∈ gW := gW_3 (List.mem_of_getElem? (i := 12) rfl) rfl
theorem wk_X7_203 : Cond.methodLink RX7 203 yX1_gaveValue ∈ gW := gW_3 (List.mem_of_getElem? (i := 16) rfl) rfl
theorem wk_L_77 : Cond.methodLink RL 77 yX7_next ∈ gW := gW_3 (List.mem_of_getElem? (i := 20) rfl) rfl
theorem wk_X7_209 : Cond.methodLink RX7 209 yX1_firstPending ∈ gW := gW_3 (List.mem_of_getElem? (i := 24) rfl) rfl
theorem wk_X1_47 : Cond.methodLink RX1 47 yX1_isAhead ∈ gW := gW_3 (List.mem_of_getElem? (i := 28) rfl) rfl
theorem wk_L_81 : Cond.methodLink RL 81 yX7_resolve ∈ gW := gW_3 (List.mem_of_getElem? (i := 32) rfl) rfl
theorem wk_X7_213 : Cond.methodLink RX7 213 yX2_canGet ∈ gW := gW_3 (List.mem_of_getElem? (i := 36) rfl) rfl
theorem wk_X7_217 : Cond.methodLink RX7 217 yX5_settle ∈ gW := gW_3 (List.mem_of_getElem? (i := 40) rfl) rfl
theorem wk_X5_146 : Cond.methodLink RX5 146 yX1_resolveAs ∈ gW := gW_3 (List.mem_of_getElem? (i := 44) rfl) rfl
theorem wk_X5_150 : Cond.methodLink RX5 150 yX1_gaveValue ∈ gW := gW_3 (List.mem_of_getElem? (i := 48) rfl) rfl
theorem wk_X5_156 : Cond.methodLink RX5 156 yX1_pending ∈ gW := gW_3 (List.mem_of_getElem? (i := 49) rfl) rfl
theorem wk_X5_160 : Cond.methodLink RX5 160 yX2_isChanged ∈ gW := gW_3 (List.mem_of_getElem? (i := 50) rfl) rfl
theorem wk_X5_164 : Cond.methodLink RX5 164 yX5_bringEdition ∈ gW := gW_3 (List.mem_of_getElem? (i := 54) rfl) rfl
theorem wk_X5_174 : Cond.methodLink RX5 174 yX2_slot ∈ gW := gW_3 (List.mem_of_getElem? (i := 58) rfl) rfl
theorem wk_X5_184 : Cond.methodLink RX5 184 yX1_firstBehind ∈ gW := gW_3 (List.mem_of_getElem? (i := 59) rfl) rfl
theorem wk_X1_56 : Cond.methodLink RX1 56 yX1_gaveValue ∈ gW := gW_3 (List.mem_of_getElem? (i := 63) rfl) rfl
theorem wk_L_85 : Cond.methodLink RL 85 yX7_appeal ∈ gW := gW_3 (List.mem_of_getElem? (i := 64) rfl) rfl
theorem wk_X7_221 : Cond.methodLink RX7 221 yX4_isSet ∈ gW := gW_3 (List.mem_of_getElem? (i := 68) rfl) rfl
theorem wk_X7_224 : Cond.methodLink RX7 224 yX5_activeWeightIn ∈ gW := gW_3 (List.mem_of_getElem? (i := 72) rfl) rfl
theorem wk_X7_227 : Cond.methodLink RX7 227 yX5_reopen ∈ gW := gW_3 (List.mem_of_getElem? (i := 73) rfl) rfl
theorem wk_L_90 : Cond.methodLink RL 90 yX7_changes ∈ gW := gW_3 (List.mem_of_getElem? (i := 77) rfl) rfl
theorem wk_X7_231 : Cond.methodLink RX7 231 yX2_changesOf ∈ gW := gW_3 (List.mem_of_getElem? (i := 81) rfl) rfl
theorem wk_X2_45 : Cond.methodLink RX2 45 yX2_differs ∈ gW := gW_3 (List.mem_of_getElem? (i := 85) rfl) rfl
theorem wk_L_94 : Cond.methodLink RL 94 yX7_change ∈ gW := gW_3 (List.mem_of_getElem? (i := 89) rfl) rfl
theorem wk_X7_234 : Cond.methodLink RX7 234 yX2_placeOfChange ∈ gW := gW_3 (List.mem_of_getElem? (i := 93) rfl) rfl
theorem wk_L_98 : Cond.methodLink RL 98 yX7_undo ∈ gW := gW_3 (List.mem_of_getElem? (i := 97) rfl) rfl
theorem wk_X7_243 : Cond.methodLink RX7 243 yX3_restore ∈ gW := gW_3 (List.mem_of_getElem? (i := 101) rfl) rfl
theorem wk_L_102 : Cond.methodLink RL 102 yX7_type ∈ gW := gW_3 (List.mem_of_getElem? (i := 105) rfl) rfl
theorem wk_X7_246 : Cond.methodLink RX7 246 yX6_append ∈ gW := gW_3 (List.mem_of_getElem? (i := 109) rfl) rfl
theorem wk_L_106 : Cond.methodLink RL 106 yX7_clearText ∈ gW := gW_3 (List.mem_of_getElem? (i := 113) rfl) rfl
theorem wk_L_110 : Cond.methodLink RL 110 yX7_fault ∈ gW := gW_3 (List.mem_of_getElem? (i := 117) rfl) rfl
theorem wk_X7_249 : Cond.methodLink RX7 249 yX7_firstFault ∈ gW := gW_3 (List.mem_of_getElem? (i := 121) rfl) rfl
theorem wk_X7_255 : Cond.methodLink RX7 255 yX6_rewind ∈ gW := gW_3 (List.mem_of_getElem? (i := 125) rfl) rfl
theorem wk_X7_269 : Cond.methodLink RX7 269 yX6_isAtEnd ∈ gW := gW_3 (List.mem_of_getElem? (i := 129) rfl) rfl
theorem wk_X7_258 : Cond.methodLink RX7 258 yX6_readComment ∈ gW := gW_3 (List.mem_of_getElem? (i := 133) rfl) rfl
theorem wk_X6_25 : Cond.methodLink RX6 25 yX6_digitsAt ∈ gW := gW_3 (List.mem_of_getElem? (i := 137) rfl) rfl
theorem wk_X6_35 : Cond.methodLink RX6 35 yX6_signAt ∈ gW := gW_3 (List.mem_of_getElem? (i := 141) rfl) rfl
theorem wk_X6_29 : Cond.methodLink RX6 29 yX6_numberAt ∈ gW := gW_3 (List.mem_of_getElem? (i := 145) rfl) rfl
theorem wk_L_114 : Cond.methodLink RL 114 yX7_enter ∈ gW := gW_3 (List.mem_of_getElem? (i := 149) rfl) rfl
theorem wk_L_12 : Cond.methodLink RL 12 yX8_init ∈ gW := gW_3 (List.mem_of_getElem? (i := 155) rfl) rfl
theorem wk_X8_1 : Cond.methodLink RX8 1 ⟨"java/lang/Object", "<init>", "()V"⟩ ∈ gW := gW_3 (List.mem_of_getElem? (i := 158) rfl) rfl
theorem wk_L_101 : Cond.methodLink RL 101 yX8_undo ∈ gW := gW_3 (List.mem_of_getElem? (i := 196) rfl) rfl
theorem wk_L_17 : Cond.methodLink RL 17 yX8_addMember ∈ gW := gW_3 (List.mem_of_getElem? (i := 200) rfl) rfl
theorem wk_X8_23 : Cond.methodLink RX8 23 yX8_in ∈ gW := gW_3 (List.mem_of_getElem? (i := 204) rfl) rfl
theorem wk_X8_31 : Cond.methodLink RX8 31 yX8_records ∈ gW := gW_3 (List.mem_of_getElem? (i := 207) rfl) rfl
theorem wk_X8_27 : Cond.methodLink RX8 27 yX8_memberAt ∈ gW := gW_3 (List.mem_of_getElem? (i := 211) rfl) rfl
theorem wk_L_22 : Cond.methodLink RL 22 yX8_addClause ∈ gW := gW_3 (List.mem_of_getElem? (i := 214) rfl) rfl
theorem wk_X8_37 : Cond.methodLink RX8 37 yX8_isValue ∈ gW := gW_3 (List.mem_of_getElem? (i := 218) rfl) rfl
theorem wk_X8_41 : Cond.methodLink RX8 41 yX8_indexOf ∈ gW := gW_3 (List.mem_of_getElem? (i := 221) rfl) rfl
theorem wk_X8_34 : Cond.methodLink RX8 34 yX8_clauseAt ∈ gW := gW_3 (List.mem_of_getElem? (i := 225) rfl) rfl
theorem wk_L_26 : Cond.methodLink RL 26 yX8_set ∈ gW := gW_3 (List.mem_of_getElem? (i := 228) rfl) rfl
theorem wk_X8_44 : Cond.methodLink RX8 44 yX8_isSetting ∈ gW := gW_3 (List.mem_of_getElem? (i := 232) rfl) rfl
theorem wk_L_30 : Cond.methodLink RL 30 yX8_member ∈ gW := gW_3 (List.mem_of_getElem? (i := 235) rfl) rfl
theorem wk_X8_51 : Cond.methodLink RX8 51 yX8_isMember ∈ gW := gW_3 (List.mem_of_getElem? (i := 239) rfl) rfl
theorem wk_X8_54 : Cond.methodLink RX8 54 yX8_isLapsed ∈ gW := gW_4 (List.mem_of_getElem? (i := 3) rfl) rfl
theorem wk_X8_57 : Cond.methodLink RX8 57 yX8_commentsOf ∈ gW := gW_4 (List.mem_of_getElem? (i := 7) rfl) rfl
theorem wk_X8_48 : Cond.methodLink RX8 48 yX8_commentAt ∈ gW := gW_4 (List.mem_of_getElem? (i := 11) rfl) rfl
theorem wk_L_34 : Cond.methodLink RL 34 yX8_value ∈ gW := gW_4 (List.mem_of_getElem? (i := 14) rfl) rfl
theorem wk_L_38 : Cond.methodLink RL 38 yX8_valueIn ∈ gW := gW_4 (List.mem_of_getElem? (i := 18) rfl) rfl
theorem wk_X8_60 : Cond.methodLink RX8 60 yX8_isEdition ∈ gW := gW_4 (List.mem_of_getElem? (i := 22) rfl) rfl
theorem wk_L_42 : Cond.methodLink RL 42 yX8_clause ∈ gW := gW_4 (List.mem_of_getElem? (i := 26) rfl) rfl
theorem wk_L_46 : Cond.methodLink RL 46 yX8_count ∈ gW := gW_4 (List.mem_of_getElem? (i := 30) rfl) rfl
theorem wk_X8_63 : Cond.methodLink RX8 63 yX8_pending ∈ gW := gW_4 (List.mem_of_getElem? (i := 34) rfl) rfl
theorem wk_X8_67 : Cond.methodLink RX8 67 yX8_activeWeight ∈ gW := gW_4 (List.mem_of_getElem? (i := 38) rfl) rfl
theorem wk_L_51 : Cond.methodLink RL 51 yX8_open ∈ gW := gW_4 (List.mem_of_getElem? (i := 42) rfl) rfl
theorem wk_L_55 : Cond.methodLink RL 55 yX8_vote ∈ gW := gW_4 (List.mem_of_getElem? (i := 46) rfl) rfl
theorem wk_L_59 : Cond.methodLink RL 59 yX8_pass ∈ gW := gW_4 (List.mem_of_getElem? (i := 50) rfl) rfl
theorem wk_X8_83 : Cond.methodLink RX8 83 yX8_ends ∈ gW := gW_4 (List.mem_of_getElem? (i := 54) rfl) rfl
theorem wk_X8_80 : Cond.methodLink RX8 80 yX8_tallies ∈ gW := gW_4 (List.mem_of_getElem? (i := 58) rfl) rfl
theorem wk_X8_73 : Cond.methodLink RX8 73 yX8_isTechnical ∈ gW := gW_4 (List.mem_of_getElem? (i := 62) rfl) rfl
theorem wk_X8_76 : Cond.methodLink RX8 76 yX8_carries ∈ gW := gW_4 (List.mem_of_getElem? (i := 66) rfl) rfl
theorem wk_L_63 : Cond.methodLink RL 63 yX8_tally ∈ gW := gW_4 (List.mem_of_getElem? (i := 70) rfl) rfl
theorem wk_L_67 : Cond.methodLink RL 67 yX8_lacking ∈ gW := gW_4 (List.mem_of_getElem? (i := 74) rfl) rfl
theorem wk_L_72 : Cond.methodLink RL 72 yX8_comment ∈ gW := gW_4 (List.mem_of_getElem? (i := 78) rfl) rfl
theorem wk_X8_87 : Cond.methodLink RX8 87 yX8_comes ∈ gW := gW_4 (List.mem_of_getElem? (i := 82) rfl) rfl
theorem wk_L_76 : Cond.methodLink RL 76 yX8_told ∈ gW := gW_4 (List.mem_of_getElem? (i := 86) rfl) rfl
theorem wk_X8_91 : Cond.methodLink RX8 91 yX8_isComment ∈ gW := gW_4 (List.mem_of_getElem? (i := 90) rfl) rfl
theorem wk_L_80 : Cond.methodLink RL 80 yX8_next ∈ gW := gW_4 (List.mem_of_getElem? (i := 94) rfl) rfl
theorem wk_X8_94 : Cond.methodLink RX8 94 yX8_isAhead ∈ gW := gW_4 (List.mem_of_getElem? (i := 98) rfl) rfl
theorem wk_L_84 : Cond.methodLink RL 84 yX8_resolve ∈ gW := gW_4 (List.mem_of_getElem? (i := 102) rfl) rfl
theorem wk_X8_101 : Cond.methodLink RX8 101 yX8_next ∈ gW := gW_4 (List.mem_of_getElem? (i := 106) rfl) rfl
theorem wk_X8_104 : Cond.methodLink RX8 104 yX8_canGet ∈ gW := gW_4 (List.mem_of_getElem? (i := 107) rfl) rfl
theorem wk_X8_107 : Cond.methodLink RX8 107 yX8_comesEdition ∈ gW := gW_4 (List.mem_of_getElem? (i := 111) rfl) rfl
theorem wk_X8_97 : Cond.methodLink RX8 97 yX8_giver ∈ gW := gW_4 (List.mem_of_getElem? (i := 115) rfl) rfl
theorem wk_L_89 : Cond.methodLink RL 89 yX8_appeal ∈ gW := gW_4 (List.mem_of_getElem? (i := 119) rfl) rfl
theorem wk_X8_110 : Cond.methodLink RX8 110 yX8_reopens ∈ gW := gW_4 (List.mem_of_getElem? (i := 123) rfl) rfl
theorem wk_L_93 : Cond.methodLink RL 93 yX8_changes ∈ gW := gW_4 (List.mem_of_getElem? (i := 127) rfl) rfl
theorem wk_X8_114 : Cond.methodLink RX8 114 yX8_isChanged ∈ gW := gW_4 (List.mem_of_getElem? (i := 131) rfl) rfl
theorem wk_L_97 : Cond.methodLink RL 97 yX8_change ∈ gW := gW_4 (List.mem_of_getElem? (i := 135) rfl) rfl
theorem wk_L_105 : Cond.methodLink RL 105 yX8_type ∈ gW := gW_4 (List.mem_of_getElem? (i := 139) rfl) rfl
theorem wk_L_109 : Cond.methodLink RL 109 yX8_clearText ∈ gW := gW_4 (List.mem_of_getElem? (i := 143) rfl) rfl
theorem wk_L_113 : Cond.methodLink RL 113 yX8_fault ∈ gW := gW_4 (List.mem_of_getElem? (i := 147) rfl) rfl
theorem wk_X8_150 : Cond.methodLink RX8 150 yX8_hasFault ∈ gW := gW_4 (List.mem_of_getElem? (i := 151) rfl) rfl
theorem wk_X8_141 : Cond.methodLink RX8 141 yX8_readsComment ∈ gW := gW_4 (List.mem_of_getElem? (i := 155) rfl) rfl
theorem wk_X8_123 : Cond.methodLink RX8 123 yX8_readNumber ∈ gW := gW_4 (List.mem_of_getElem? (i := 159) rfl) rfl
theorem wk_X8_120 : Cond.methodLink RX8 120 yX8_here ∈ gW := gW_4 (List.mem_of_getElem? (i := 163) rfl) rfl
theorem wk_X8_132 : Cond.methodLink RX8 132 yX8_takes ∈ gW := gW_4 (List.mem_of_getElem? (i := 167) rfl) rfl
theorem wk_L_117 : Cond.methodLink RL 117 yX8_enter ∈ gW := gW_4 (List.mem_of_getElem? (i := 171) rfl) rfl
theorem wn_L_7 : Cond.classLink RL 7 "CommitteeBallots" ∈ gW := gW_1 (List.mem_of_getElem? (i := 13) rfl) rfl
theorem wn_X7_7 : Cond.classLink RX7 7 "CommitteeBallots$State" ∈ gW := gW_1 (List.mem_of_getElem? (i := 21) rfl) rfl
theorem wn_X5_9 : Cond.classLink RX5 9 "CommitteeBallots$Members" ∈ gW := gW_1 (List.mem_of_getElem? (i := 27) rfl) rfl
theorem wn_X5_18 : Cond.classLink RX5 18 "CommitteeBallots$Document" ∈ gW := gW_1 (List.mem_of_getElem? (i := 60) rfl) rfl
theorem wn_X5_25 : Cond.classLink RX5 25 "CommitteeBallots$Ballot" ∈ gW := gW_1 (List.mem_of_getElem? (i := 105) rfl) rfl
theorem wn_X5_32 : Cond.classLink RX5 32 "CommitteeBallots$Comments" ∈ gW := gW_1 (List.mem_of_getElem? (i := 136) rfl) rfl
theorem wn_X5_44 : Cond.classLink RX5 44 "[I" ∈ gW := gW_1 (List.mem_of_getElem? (i := 193) rfl) rfl
theorem wn_X7_16 : Cond.classLink RX7 16 "CommitteeBallots$History" ∈ gW := gW_1 (List.mem_of_getElem? (i := 219) rfl) rfl
theorem wn_X3_9 : Cond.classLink RX3 9 "CommitteeBallots$State" ∈ gW := gW_1 (List.mem_of_getElem? (i := 225) rfl) rfl
theorem wn_X7_23 : Cond.classLink RX7 23 "CommitteeBallots$Text" ∈ gW := gW_1 (List.mem_of_getElem? (i := 239) rfl) rfl
theorem wn_L_10 : Cond.classLink RL 10 "CommitteeBallotsModel" ∈ gW := gW_3 (List.mem_of_getElem? (i := 153) rfl) rfl
theorem wt_X7 : Cond.instantiable RX7 3 ∈ gW := gW_1 (List.mem_of_getElem? (i := 14) rfl) rfl
theorem wt_X5 : Cond.instantiable RX5 6 ∈ gW := gW_1 (List.mem_of_getElem? (i := 22) rfl) rfl
theorem wt_X4 : Cond.instantiable RX4 5 ∈ gW := gW_1 (List.mem_of_getElem? (i := 28) rfl) rfl
theorem wt_X2 : Cond.instantiable RX2 8 ∈ gW := gW_1 (List.mem_of_getElem? (i := 61) rfl) rfl
theorem wt_X0 : Cond.instantiable RX0 5 ∈ gW := gW_1 (List.mem_of_getElem? (i := 106) rfl) rfl
theorem wt_X1 : Cond.instantiable RX1 10 ∈ gW := gW_1 (List.mem_of_getElem? (i := 137) rfl) rfl
theorem wt_X3 : Cond.instantiable RX3 3 ∈ gW := gW_1 (List.mem_of_getElem? (i := 220) rfl) rfl
theorem wt_X6 : Cond.instantiable RX6 7 ∈ gW := gW_2 (List.mem_of_getElem? (i := 0) rfl) rfl
theorem wt_X8 : Cond.instantiable RX8 12 ∈ gW := gW_3 (List.mem_of_getElem? (i := 154) rfl) rfl
theorem wu_X0 : ∀ w ∈ u_ws RX0 TX0 5, w ∈ gW := by
  show ∀ w ∈ [u_lay RX0 TX0 0, u_lay RX0 TX0 1, u_lay RX0 TX0 2, u_lay RX0 TX0 3, u_lay RX0 TX0 4], w ∈ gW
  exact List.forall_mem_cons.mpr ⟨(gW_1 (List.mem_of_getElem? (i := 125) rfl) rfl : Cond.laysFinal RX0 "CommitteeBallots$Ballot" "sums" "[I" ∈ gW), List.forall_mem_cons.mpr ⟨(gW_1 (List.mem_of_getElem? (i := 127) rfl) rfl : Cond.lays RX0 "CommitteeBallots$Ballot" "isOpen" "Z" ∈ gW), List.forall_mem_cons.mpr ⟨(gW_1 (List.mem_of_getElem? (i := 129) rfl) rfl : Cond.lays RX0 "CommitteeBallots$Ballot" "broughtEdition" "Z" ∈ gW), List.forall_mem_cons.mpr ⟨(gW_1 (List.mem_of_getElem? (i := 131) rfl) rfl : Cond.lays RX0 "CommitteeBallots$Ballot" "number" "I" ∈ gW), List.forall_mem_cons.mpr ⟨(gW_1 (List.mem_of_getElem? (i := 133) rfl) rfl : Cond.lays RX0 "CommitteeBallots$Ballot" "lastDay" "I" ∈ gW), fun _ h => absurd h List.not_mem_nil⟩⟩⟩⟩⟩
theorem wu_X1 : ∀ w ∈ u_ws RX1 TX1 10, w ∈ gW := by
  show ∀ w ∈ [u_lay RX1 TX1 0, u_lay RX1 TX1 1, u_lay RX1 TX1 2, u_lay RX1 TX1 3, u_lay RX1 TX1 4, u_lay RX1 TX1 5, u_lay RX1 TX1 6, u_lay RX1 TX1 7, u_lay RX1 TX1 8, u_lay RX1 TX1 9], w ∈ gW
  exact List.forall_mem_cons.mpr ⟨(gW_1 (List.mem_of_getElem? (i := 164) rfl) rfl : Cond.laysFinal RX1 "CommitteeBallots$Comments" "member" "[I" ∈ gW), List.forall_mem_cons.mpr ⟨(gW_1 (List.mem_of_getElem? (i := 166) rfl) rfl : Cond.laysFinal RX1 "CommitteeBallots$Comments" "place" "[I" ∈ gW), List.forall_mem_cons.mpr ⟨(gW_1 (List.mem_of_getElem? (i := 168) rfl) rfl : Cond.laysFinal RX1 "CommitteeBallots$Comments" "kind" "[I" ∈ gW), List.forall_mem_cons.mpr ⟨(gW_1 (List.mem_of_getElem? (i := 170) rfl) rfl : Cond.laysFinal RX1 "CommitteeBallots$Comments" "proposed" "[I" ∈ gW), List.forall_mem_cons.mpr ⟨(gW_1 (List.mem_of_getElem? (i := 172) rfl) rfl : Cond.laysFinal RX1 "CommitteeBallots$Comments" "standing" "[I" ∈ gW), List.forall_mem_cons.mpr ⟨(gW_1 (List.mem_of_getElem? (i := 174) rfl) rfl : Cond.laysFinal RX1 "CommitteeBallots$Comments" "day" "[I" ∈ gW), List.forall_mem_cons.mpr ⟨(gW_1 (List.mem_of_getElem? (i := 176) rfl) rfl : Cond.laysFinal RX1 "CommitteeBallots$Comments" "gave" "[I" ∈ gW), List.forall_mem_cons.mpr ⟨(gW_1 (List.mem_of_getElem? (i := 178) rfl) rfl : Cond.laysFinal RX1 "CommitteeBallots$Comments" "turn" "[I" ∈ gW), List.forall_mem_cons.mpr ⟨(gW_1 (List.mem_of_getElem? (i := 180) rfl) rfl : Cond.lays RX1 "CommitteeBallots$Comments" "size" "I" ∈ gW), List.forall_mem_cons.mpr ⟨(gW_1 (List.mem_of_getElem? (i := 182) rfl) rfl : Cond.lays RX1 "CommitteeBallots$Comments" "turns" "I" ∈ gW), fun _ h => absurd h List.not_mem_nil⟩⟩⟩⟩⟩⟩⟩⟩⟩⟩
theorem wu_X2 : ∀ w ∈ u_ws RX2 TX2 8, w ∈ gW := by
  show ∀ w ∈ [u_lay RX2 TX2 0, u_lay RX2 TX2 1, u_lay RX2 TX2 2, u_lay RX2 TX2 3, u_lay RX2 TX2 4, u_lay RX2 TX2 5, u_lay RX2 TX2 6, u_lay RX2 TX2 7], w ∈ gW
  exact List.forall_mem_cons.mpr ⟨(gW_1 (List.mem_of_getElem? (i := 88) rfl) rfl : Cond.laysFinal RX2 "CommitteeBallots$Document" "number" "[I" ∈ gW), List.forall_mem_cons.mpr ⟨(gW_1 (List.mem_of_getElem? (i := 90) rfl) rfl : Cond.laysFinal RX2 "CommitteeBallots$Document" "present" "[I" ∈ gW), List.forall_mem_cons.mpr ⟨(gW_1 (List.mem_of_getElem? (i := 92) rfl) rfl : Cond.laysFinal RX2 "CommitteeBallots$Document" "atOpening" "[I" ∈ gW), List.forall_mem_cons.mpr ⟨(gW_1 (List.mem_of_getElem? (i := 94) rfl) rfl : Cond.laysFinal RX2 "CommitteeBallots$Document" "ballotBehind" "[I" ∈ gW), List.forall_mem_cons.mpr ⟨(gW_1 (List.mem_of_getElem? (i := 96) rfl) rfl : Cond.laysFinal RX2 "CommitteeBallots$Document" "inEdition" "[I" ∈ gW), List.forall_mem_cons.mpr ⟨(gW_1 (List.mem_of_getElem? (i := 98) rfl) rfl : Cond.laysFinal RX2 "CommitteeBallots$Document" "commentBehind" "[I" ∈ gW), List.forall_mem_cons.mpr ⟨(gW_1 (List.mem_of_getElem? (i := 100) rfl) rfl : Cond.lays RX2 "CommitteeBallots$Document" "size" "I" ∈ gW), List.forall_mem_cons.mpr ⟨(gW_1 (List.mem_of_getElem? (i := 102) rfl) rfl : Cond.lays RX2 "CommitteeBallots$Document" "edition" "I" ∈ gW), fun _ h => absurd h List.not_mem_nil⟩⟩⟩⟩⟩⟩⟩⟩
theorem wu_X3 : ∀ w ∈ u_ws RX3 TX3 3, w ∈ gW := by
  show ∀ w ∈ [u_lay RX3 TX3 0, u_lay RX3 TX3 1, u_lay RX3 TX3 2], w ∈ gW
  exact List.forall_mem_cons.mpr ⟨(gW_1 (List.mem_of_getElem? (i := 232) rfl) rfl : Cond.laysFinal RX3 "CommitteeBallots$History" "states" "[LCommitteeBallots$State;" ∈ gW), List.forall_mem_cons.mpr ⟨(gW_1 (List.mem_of_getElem? (i := 234) rfl) rfl : Cond.lays RX3 "CommitteeBallots$History" "oldest" "I" ∈ gW), List.forall_mem_cons.mpr ⟨(gW_1 (List.mem_of_getElem? (i := 236) rfl) rfl : Cond.lays RX3 "CommitteeBallots$History" "size" "I" ∈ gW), fun _ h => absurd h List.not_mem_nil⟩⟩⟩
theorem wu_X4 : ∀ w ∈ u_ws RX4 TX4 5, w ∈ gW := by
  show ∀ w ∈ [u_lay RX4 TX4 0, u_lay RX4 TX4 1, u_lay RX4 TX4 2, u_lay RX4 TX4 3, u_lay RX4 TX4 4], w ∈ gW
  exact List.forall_mem_cons.mpr ⟨(gW_1 (List.mem_of_getElem? (i := 48) rfl) rfl : Cond.laysFinal RX4 "CommitteeBallots$Members" "weight" "[I" ∈ gW), List.forall_mem_cons.mpr ⟨(gW_1 (List.mem_of_getElem? (i := 50) rfl) rfl : Cond.laysFinal RX4 "CommitteeBallots$Members" "misses" "[I" ∈ gW), List.forall_mem_cons.mpr ⟨(gW_1 (List.mem_of_getElem? (i := 52) rfl) rfl : Cond.laysFinal RX4 "CommitteeBallots$Members" "given" "[I" ∈ gW), List.forall_mem_cons.mpr ⟨(gW_1 (List.mem_of_getElem? (i := 54) rfl) rfl : Cond.laysFinal RX4 "CommitteeBallots$Members" "ballotsVoted" "[I" ∈ gW), List.forall_mem_cons.mpr ⟨(gW_1 (List.mem_of_getElem? (i := 56) rfl) rfl : Cond.lays RX4 "CommitteeBallots$Members" "size" "I" ∈ gW), fun _ h => absurd h List.not_mem_nil⟩⟩⟩⟩⟩
theorem wu_X5 : ∀ w ∈ u_ws RX5 TX5 6, w ∈ gW := by
  show ∀ w ∈ [u_lay RX5 TX5 0, u_lay RX5 TX5 1, u_lay RX5 TX5 2, u_lay RX5 TX5 3, u_lay RX5 TX5 4, u_lay RX5 TX5 5], w ∈ gW
  exact List.forall_mem_cons.mpr ⟨(gW_1 (List.mem_of_getElem? (i := 206) rfl) rfl : Cond.laysFinal RX5 "CommitteeBallots$State" "members" "LCommitteeBallots$Members;" ∈ gW), List.forall_mem_cons.mpr ⟨(gW_1 (List.mem_of_getElem? (i := 208) rfl) rfl : Cond.laysFinal RX5 "CommitteeBallots$State" "document" "LCommitteeBallots$Document;" ∈ gW), List.forall_mem_cons.mpr ⟨(gW_1 (List.mem_of_getElem? (i := 210) rfl) rfl : Cond.laysFinal RX5 "CommitteeBallots$State" "ballot" "LCommitteeBallots$Ballot;" ∈ gW), List.forall_mem_cons.mpr ⟨(gW_1 (List.mem_of_getElem? (i := 212) rfl) rfl : Cond.laysFinal RX5 "CommitteeBallots$State" "comments" "LCommitteeBallots$Comments;" ∈ gW), List.forall_mem_cons.mpr ⟨(gW_1 (List.mem_of_getElem? (i := 214) rfl) rfl : Cond.laysFinal RX5 "CommitteeBallots$State" "settings" "[I" ∈ gW), List.forall_mem_cons.mpr ⟨(gW_1 (List.mem_of_getElem? (i := 216) rfl) rfl : Cond.lays RX5 "CommitteeBallots$State" "today" "I" ∈ gW), fun _ h => absurd h List.not_mem_nil⟩⟩⟩⟩⟩⟩
theorem wu_X6 : ∀ w ∈ u_ws RX6 TX6 7, w ∈ gW := by
  show ∀ w ∈ [u_lay RX6 TX6 0, u_lay RX6 TX6 1, u_lay RX6 TX6 2, u_lay RX6 TX6 3, u_lay RX6 TX6 4, u_lay RX6 TX6 5, u_lay RX6 TX6 6], w ∈ gW
  exact List.forall_mem_cons.mpr ⟨(gW_2 (List.mem_of_getElem? (i := 17) rfl) rfl : Cond.laysFinal RX6 "CommitteeBallots$Text" "signs" "[C" ∈ gW), List.forall_mem_cons.mpr ⟨(gW_2 (List.mem_of_getElem? (i := 19) rfl) rfl : Cond.lays RX6 "CommitteeBallots$Text" "length" "I" ∈ gW), List.forall_mem_cons.mpr ⟨(gW_2 (List.mem_of_getElem? (i := 21) rfl) rfl : Cond.lays RX6 "CommitteeBallots$Text" "start" "I" ∈ gW), List.forall_mem_cons.mpr ⟨(gW_2 (List.mem_of_getElem? (i := 23) rfl) rfl : Cond.lays RX6 "CommitteeBallots$Text" "end" "I" ∈ gW), List.forall_mem_cons.mpr ⟨(gW_2 (List.mem_of_getElem? (i := 25) rfl) rfl : Cond.lays RX6 "CommitteeBallots$Text" "clause" "I" ∈ gW), List.forall_mem_cons.mpr ⟨(gW_2 (List.mem_of_getElem? (i := 27) rfl) rfl : Cond.lays RX6 "CommitteeBallots$Text" "kind" "I" ∈ gW), List.forall_mem_cons.mpr ⟨(gW_2 (List.mem_of_getElem? (i := 29) rfl) rfl : Cond.lays RX6 "CommitteeBallots$Text" "proposed" "I" ∈ gW), fun _ h => absurd h List.not_mem_nil⟩⟩⟩⟩⟩⟩⟩
theorem wu_X7 : ∀ w ∈ u_ws RX7 TX7 3, w ∈ gW := by
  show ∀ w ∈ [u_lay RX7 TX7 0, u_lay RX7 TX7 1, u_lay RX7 TX7 2], w ∈ gW
  exact List.forall_mem_cons.mpr ⟨(gW_2 (List.mem_of_getElem? (i := 36) rfl) rfl : Cond.laysFinal RX7 "CommitteeBallots" "now" "LCommitteeBallots$State;" ∈ gW), List.forall_mem_cons.mpr ⟨(gW_2 (List.mem_of_getElem? (i := 38) rfl) rfl : Cond.laysFinal RX7 "CommitteeBallots" "history" "LCommitteeBallots$History;" ∈ gW), List.forall_mem_cons.mpr ⟨(gW_2 (List.mem_of_getElem? (i := 40) rfl) rfl : Cond.laysFinal RX7 "CommitteeBallots" "text" "LCommitteeBallots$Text;" ∈ gW), fun _ h => absurd h List.not_mem_nil⟩⟩⟩
theorem wu_X8 : ∀ w ∈ u_ws RX8 TX8 12, w ∈ gW := by
  show ∀ w ∈ [u_lay RX8 TX8 0, u_lay RX8 TX8 1, u_lay RX8 TX8 2, u_lay RX8 TX8 3, u_lay RX8 TX8 4, u_lay RX8 TX8 5, u_lay RX8 TX8 6, u_lay RX8 TX8 7, u_lay RX8 TX8 8, u_lay RX8 TX8 9, u_lay RX8 TX8 10, u_lay RX8 TX8 11], w ∈ gW
  exact List.forall_mem_cons.mpr ⟨(gW_3 (List.mem_of_getElem? (i := 171) rfl) rfl : Cond.laysFinal RX8 "CommitteeBallotsModel" "now" "[I" ∈ gW), List.forall_mem_cons.mpr ⟨(gW_3 (List.mem_of_getElem? (i := 173) rfl) rfl : Cond.laysFinal RX8 "CommitteeBallotsModel" "past" "[I" ∈ gW), List.forall_mem_cons.mpr ⟨(gW_3 (List.mem_of_getElem? (i := 175) rfl) rfl : Cond.lays RX8 "CommitteeBallotsModel" "saved" "I" ∈ gW), List.forall_mem_cons.mpr ⟨(gW_3 (List.mem_of_getElem? (i := 177) rfl) rfl : Cond.laysFinal RX8 "CommitteeBallotsModel" "text" "[I" ∈ gW), List.forall_mem_cons.mpr ⟨(gW_3 (List.mem_of_getElem? (i := 179) rfl) rfl : Cond.lays RX8 "CommitteeBallotsModel" "length" "I" ∈ gW), List.forall_mem_cons.mpr ⟨(gW_3 (List.mem_of_getElem? (i := 181) rfl) rfl : Cond.lays RX8 "CommitteeBallotsModel" "spot" "I" ∈ gW), List.forall_mem_cons.mpr ⟨(gW_3 (List.mem_of_getElem? (i := 183) rfl) rfl : Cond.lays RX8 "CommitteeBallotsModel" "readClause" "I" ∈ gW), List.forall_mem_cons.mpr ⟨(gW_3 (List.mem_of_getElem? (i := 185) rfl) rfl : Cond.lays RX8 "CommitteeBallotsModel" "readKind" "I" ∈ gW), List.forall_mem_cons.mpr ⟨(gW_3 (List.mem_of_getElem? (i := 187) rfl) rfl : Cond.lays RX8 "CommitteeBallotsModel" "readValue" "I" ∈ gW), List.forall_mem_cons.mpr ⟨(gW_3 (List.mem_of_getElem? (i := 189) rfl) rfl : Cond.lays RX8 "CommitteeBallotsModel" "faultAt" "I" ∈ gW), List.forall_mem_cons.mpr ⟨(gW_3 (List.mem_of_getElem? (i := 191) rfl) rfl : Cond.lays RX8 "CommitteeBallotsModel" "faultWhy" "I" ∈ gW), List.forall_mem_cons.mpr ⟨(gW_3 (List.mem_of_getElem? (i := 193) rfl) rfl : Cond.lays RX8 "CommitteeBallotsModel" "readMany" "I" ∈ gW), fun _ h => absurd h List.not_mem_nil⟩⟩⟩⟩⟩⟩⟩⟩⟩⟩⟩⟩
def gNest : List Cond := [.methodLinkNest RX7 9 yX5_init "CommitteeBallots", .methodLinkNest RX5 11 yX4_init "CommitteeBallots", .methodLinkNest RX5 20 yX2_init "CommitteeBallots", .methodLinkNest RX5 27 yX0_init "CommitteeBallots", .methodLinkNest RX5 34 yX1_init "CommitteeBallots", .fieldLinkNest RX5 39 "CommitteeBallots" "FIRST_SETTINGS" "[I" "CommitteeBallots", .methodLinkNest RX3 17 yX5_init "CommitteeBallots", .methodLinkNest RX7 25 yX6_init "CommitteeBallots", .methodLinkNest RX4 24 yX7_copyAll "CommitteeBallots", .methodLinkNest RX2 34 yX7_copyAll "CommitteeBallots", .methodLinkNest RX0 15 yX7_copyAll "CommitteeBallots", .methodLinkNest RX1 36 yX7_copyAll "CommitteeBallots", .methodLinkNest RX5 64 yX7_copyAll "CommitteeBallots"]
end
section
abbrev gM : Type := Nat → Nat → Int32
abbrev gSh : Type := Nat × Nat × List (Option Nat)
abbrev gE : Type := Launch × (Nat → Nat) × va_G × (ClassId × ClassId × ClassId)
def shp : List gSh := [(0, 7, [some 1, some 126, some 128]),
  (0, 5, [some 2, some 7, some 14, some 16, some 25, none]),
  (0, 4, [some 3, some 4, some 5, some 6, none]),
  (1, 10, []),
  (1, 10, []),
  (1, 10, []),
  (1, 10, []),
  (0, 2, [some 8, some 9, some 10, some 11, some 12, some 13, none, none]),
  (1, 20, []),
  (1, 20, []),
  (1, 20, []),
  (1, 12, []),
  (1, 240, []),
  (1, 240, []),
  (0, 0, [some 15, none, none, none, none]),
  (1, 6, []),
  (0, 1, [some 17, some 18, some 19, some 20, some 21, some 22, some 23, some 24, none, none]),
  (1, 30, []),
  (1, 30, []),
  (1, 30, []),
  (1, 30, []),
  (1, 30, []),
  (1, 30, []),
  (1, 30, []),
  (1, 30, []),
  (1, 5, []),
  (0, 5, [some 27, some 32, some 39, some 41, some 50, none]),
  (0, 4, [some 28, some 29, some 30, some 31, none]),
  (1, 10, []),
  (1, 10, []),
  (1, 10, []),
  (1, 10, []),
  (0, 2, [some 33, some 34, some 35, some 36, some 37, some 38, none, none]),
  (1, 20, []),
  (1, 20, []),
  (1, 20, []),
  (1, 12, []),
  (1, 240, []),
  (1, 240, []),
  (0, 0, [some 40, none, none, none, none]),
  (1, 6, []),
  (0, 1, [some 42, some 43, some 44, some 45, some 46, some 47, some 48, some 49, none, none]),
  (1, 30, []),
  (1, 30, []),
  (1, 30, []),
  (1, 30, []),
  (1, 30, []),
  (1, 30, []),
  (1, 30, []),
  (1, 30, []),
  (1, 5, []),
  (0, 5, [some 52, some 57, some 64, some 66, some 75, none]),
  (0, 4, [some 53, some 54, some 55, some 56, none]),
  (1, 10, []),
  (1, 10, []),
  (1, 10, []),
  (1, 10, []),
  (0, 2, [some 58, some 59, some 60, some 61, some 62, some 63, none, none]),
  (1, 20, []),
  (1, 20, []),
  (1, 20, []),
  (1, 12, []),
  (1, 240, []),
  (1, 240, []),
  (0, 0, [some 65, none, none, none, none]),
  (1, 6, []),
  (0, 1, [some 67, some 68, some 69, some 70, some 71, some 72, some 73, some 74, none, none]),
  (1, 30, []),
  (1, 30, []),
  (1, 30, []),
  (1, 30, []),
  (1, 30, []),
  (1, 30, []),
  (1, 30, []),
  (1, 30, []),
  (1, 5, []),
  (0, 5, [some 77, some 82, some 89, some 91, some 100, none]),
  (0, 4, [some 78, some 79, some 80, some 81, none]),
  (1, 10, []),
  (1, 10, []),
  (1, 10, []),
  (1, 10, []),
  (0, 2, [some 83, some 84, some 85, some 86, some 87, some 88, none, none]),
  (1, 20, []),
  (1, 20, []),
  (1, 20, []),
  (1, 12, []),
  (1, 240, []),
  (1, 240, []),
  (0, 0, [some 90, none, none, none, none]),
  (1, 6, []),
  (0, 1, [some 92, some 93, some 94, some 95, some 96, some 97, some 98, some 99, none, none]),
  (1, 30, []),
  (1, 30, []),
  (1, 30, []),
  (1, 30, []),
  (1, 30, []),
  (1, 30, []),
  (1, 30, []),
  (1, 30, []),
  (1, 5, []),
  (0, 5, [some 102, some 107, some 114, some 116, some 125, none]),
  (0, 4, [some 103, some 104, some 105, some 106, none]),
  (1, 10, []),
  (1, 10, []),
  (1, 10, []),
  (1, 10, []),
  (0, 2, [some 108, some 109, some 110, some 111, some 112, some 113, none, none]),
  (1, 20, []),
  (1, 20, []),
  (1, 20, []),
  (1, 12, []),
  (1, 240, []),
  (1, 240, []),
  (0, 0, [some 115, none, none, none, none]),
  (1, 6, []),
  (0, 1, [some 117, some 118, some 119, some 120, some 121, some 122, some 123, some 124, none, none]),
  (1, 30, []),
  (1, 30, []),
  (1, 30, []),
  (1, 30, []),
  (1, 30, []),
  (1, 30, []),
  (1, 30, []),
  (1, 30, []),
  (1, 5, []),
  (0, 3, [some 127, none, none]),
  (3, 4, [some 26, some 51, some 76, some 101]),
  (0, 6, [some 129, none, none, none, none, none, none]),
  (2, 80, []),
  (0, 8, [some 131, some 132, none, some 133, none, none, none, none, none, none, none, none]),
  (1, 1213, []),
  (1, 4852, []),
  (1, 80, [])]
def gset (M : gM) (a : Nat) (r : Nat → Int32) : gM := fun b => if b = a then r else M b
theorem gset_eq (M : gM) (a : Nat) (r : Nat → Int32) : gset M a r a = r := if_pos rfl
theorem gset_ne (M : gM) {a b : Nat} (r : Nat → Int32) (h : b ≠ a) : gset M a r b = M b := if_neg h
def gfs (ρ : Nat → Nat) (r : Nat → Int32) : Nat → List (Option Nat) → List Value
  | _, [] => []
  | k, some b :: l => .ref (ρ b) :: gfs ρ r (k + 1) l
  | k, none :: l => .int (r k) :: gfs ρ r (k + 1) l
def gfv (ρ : Nat → Nat) (r : Nat → Int32) (k : Nat) (o : Option Nat) : Value := match o with
  | some b => .ref (ρ b)
  | none => .int (r k)
theorem gfs_get (ρ : Nat → Nat) (r : Nat → Int32) : ∀ (l : List (Option Nat)) (j k : Nat), (gfs ρ r j l)[k]? = (l[k]?).map (gfv ρ r (j + k)) := by
  intro l
  induction l with
  | nil => intro j k; simp [gfs]
  | cons o l ih =>
    intro j k
    cases k with
    | zero => cases o <;> simp [gfs, gfv]
    | succ k =>
      have e : j + 1 + k = j + (k + 1) := by omega
      cases o <;> simp [gfs, ih, e]
theorem gfs_len (ρ : Nat → Nat) (r : Nat → Int32) : ∀ (l : List (Option Nat)) (j : Nat), (gfs ρ r j l).length = l.length := by
  intro l
  induction l with
  | nil => intro j; simp [gfs]
  | cons o l ih => intro j; cases o <;> simp [gfs, ih]
theorem gfs_set (ρ : Nat → Nat) (r : Nat → Int32) (l : List (Option Nat)) (k : Nat) (v : Int32) (h : l[k]? = some none) : (gfs ρ r 0 l).set k (.int v) = gfs ρ (upd r k v) 0 l := by
  apply List.ext_getElem?
  intro i
  by_cases hi : i = k
  · subst hi
    have hl : i < (gfs ρ r 0 l).length := by rw [gfs_len]; exact (List.getElem?_eq_some_iff.mp h).1
    rw [List.getElem?_set_self hl, gfs_get, h]
    simp [gfv, upd]
  · rw [List.getElem?_set_ne (Ne.symm hi), gfs_get, gfs_get]
    cases l[i]? with
    | none => rfl
    | some o => cases o <;> simp [gfv, upd, hi]
def gcell (E : gE) (r : Nat → Int32) (q : gSh) : va_E := match q.1 with
  | 0 => .inr (q.2.1, gfs E.2.1 r 0 q.2.2)
  | 1 => .inl (E.2.2.2.1, q.2.1, .inl r)
  | 2 => .inl (E.2.2.2.2.1, q.2.1, .inl r)
  | _ => .inl (E.2.2.2.2.2, q.2.1, .inr (.inr (.inr (.inr (fun k => (q.2.2.getD k none).map E.2.1)))))
def gws (E : gE) (M : gM) : va_W := shp.mapIdx (fun a q => (E.2.1 a, gcell E (M a) q))
theorem gws_get {E : gE} {M : gM} {a : Nat} {q : gSh} (h : shp[a]? = some q) : (gws E M)[a]? = some (E.2.1 a, gcell E (M a) q) := by
  simp [gws, List.getElem?_mapIdx, h]
theorem gws_inv {E : gE} {M : gM} {k : Nat} {q : Nat × va_E} (h : (gws E M)[k]? = some q) : ∃ sh : gSh, shp[k]? = some sh ∧ q = (E.2.1 k, gcell E (M k) sh) := by
  simp only [gws, List.getElem?_mapIdx, Option.map_eq_some_iff] at h
  obtain ⟨sh, h1, h2⟩ := h
  exact ⟨sh, h1, h2.symm⟩
theorem gws_set {E : gE} {M : gM} {a : Nat} {q : gSh} {r : Nat → Int32} (h : shp[a]? = some q) : (gws E M).set a (E.2.1 a, gcell E r q) = gws E (gset M a r) := by
  apply List.ext_getElem?
  intro i
  by_cases hi : i = a
  · subst hi
    have hl : i < (gws E M).length := (List.getElem?_eq_some_iff.mp (gws_get (E := E) (M := M) h)).1
    rw [List.getElem?_set_self hl, gws_get h, gset_eq]
  · rw [List.getElem?_set_ne (Ne.symm hi)]
    simp only [gws, List.getElem?_mapIdx, gset_ne M r hi]
def gA (E : gE) : Nat → Prop := fun q => ∃ a, a < 134 ∧ q = E.2.1 a
def gtys (E : gE) : List (ClassId × FieldType) := [(E.2.2.2.1, .int), (E.2.2.2.2.1, .char), (E.2.2.2.2.2, .object RX5)]
def gLe (j : Nat) : Int32 := match j with
  | 0 => 1
  | 1 => 1
  | 2 => 1
  | 3 => 0
  | _ => 1
def gGr (j : Nat) : Int32 := match j with
  | 0 => 100
  | 1 => 100
  | 2 => 60
  | 3 => 60
  | _ => 5
def gEnv (E : gE) (A : Nat → Prop) (U : State) : Prop :=
  va_K E.2.2.1 vwCl (gtys E) U ∧ va_Z RX7 "LEAST_SETTINGS" "[I" (.ref (E.2.1 134)) A U U.heap ∧ va_T .int (E.2.1 134) 5 (fun j => .int (gLe j)) A U U.heap ∧
  va_Z RX7 "GREATEST_SETTINGS" "[I" (.ref (E.2.1 135)) A U U.heap ∧ va_T .int (E.2.1 135) 5 (fun j => .int (gGr j)) A U U.heap ∧ (∀ w ∈ gNest, va_Nw w U) ∧
  (∀ a b, a < 134 → b < 134 → E.2.1 a = E.2.1 b → a = b) ∧ (∀ a, a < 134 → A (E.2.1 a))
theorem gEnv.D {E : gE} {A : Nat → Prop} {U : State} {M : gM} (h : gEnv E A U) : va_D A (gws E M) := by
  obtain ⟨-, -, -, -, -, -, hi, ha⟩ := h
  have hlt : ∀ {k : Nat} {sh : gSh}, shp[k]? = some sh → k < 134 := fun hk => (List.getElem?_eq_some_iff.mp hk).1
  refine ⟨fun i j x y hx hy e => ?_, fun k q hk => ?_⟩
  · obtain ⟨s1, h1, rfl⟩ := gws_inv hx
    obtain ⟨s2, h2, rfl⟩ := gws_inv hy
    exact hi i j (hlt h1) (hlt h2) e
  · obtain ⟨s1, h1, rfl⟩ := gws_inv hk
    exact ha k (hlt h1)
theorem gNest_warm {s U : State} (hW : s.WarmedH U.vm) (h : ∀ w ∈ gNest, va_Nw w s) : ∀ w ∈ gNest, va_Nw w U := by
  intro w hw
  have h1 := h w hw
  simp only [gNest, List.mem_cons, List.not_mem_nil, or_false] at hw
  rcases hw with rfl | rfl | rfl | rfl | rfl | rfl | rfl | rfl | rfl | rfl | rfl | rfl | rfl <;> first | exact va_Nw.warmM hW h1 | exact va_Nw.warmF hW h1
theorem gNest_same {s U : State} (hv : s.vm = U.vm) (h : ∀ w ∈ gNest, va_Nw w s) : ∀ w ∈ gNest, va_Nw w U := by
  intro w hw
  have h1 := h w hw
  simp only [gNest, List.mem_cons, List.not_mem_nil, or_false] at hw
  rcases hw with rfl | rfl | rfl | rfl | rfl | rfl | rfl | rfl | rfl | rfl | rfl | rfl | rfl <;> exact va_Nw.same rfl hv h1
/-- the surroundings of a callee, out of its caller's -/
theorem gEnv.call {E : gE} {A : Nat → Prop} {s U : State} {locs : List Loc} (h : gEnv E A s) (hS : va_S A s.heap U.heap locs) (hW : s.WarmedH U.vm) : gEnv E (gA E) U := by
  obtain ⟨h1, h2, h3, h4, h5, h6, h7, h8⟩ := h
  have hA : ∀ q, gA E q → A q := fun q ⟨a, ha, e⟩ => e ▸ h8 a ha
  exact ⟨va_K.moved hW.alike h1, ((h2.kept hS.2.1).moved hW.alike).narrow hA, ((h3.kept hS.2.1).moved hW.alike).narrow hA, ((h4.kept hS.2.1).moved hW.alike).narrow hA, ((h5.kept hS.2.1).moved hW.alike).narrow hA, gNest_warm hW h6, h7, fun a ha => ⟨a, ha, rfl⟩⟩
theorem gEnv.blind {E : gE} {A : Nat → Prop} {U : State} (a : Array Value) (g : JFrame) (mk : MethodId) (h : gEnv E A U) : gEnv E A (U.calling g mk a) := by
  obtain ⟨h1, h2, h3, h4, h5, h6, h7, h8⟩ := h
  have hv : U.vm.Alike (U.calling g mk a).vm := Vm.Alike.refl U.vm
  exact ⟨va_K.moved hv h1, h2.moved hv, h3.moved hv, h4.moved hv, h5.moved hv, gNest_same (s := U) (U := U.calling g mk a) rfl h6, h7, h8⟩
def gtr (ρ : Nat → Nat) (v : Value) : Value := match v with
  | .ref a => .ref (ρ a)
  | v => v
abbrev gLs : Type := List (Option Value)
def gL (ρ : Nat → Nat) (lsr : Array Slot) (ls : gLs) : Prop := lsr.size = ls.length ∧ lv_wf lsr ∧ ∀ (i : Nat) (v : Value), ls[i]? = some (some v) → v.category = 1 ∧ lsr[i]? = some (.val (gtr ρ v))
def gassoc (ρ : Nat → Nat) (ls : gLs) : List (Nat × Value) := (List.range ls.length).filterMap (fun j => match ls[j]? with
  | some (some v) => some (j, gtr ρ v)
  | _ => none)
theorem gtr_cat (ρ : Nat → Nat) (v : Value) : (gtr ρ v).category = v.category := by cases v <;> rfl
theorem gL.has {ρ : Nat → Nat} {lsr : Array Slot} {ls : gLs} (h : gL ρ lsr ls) : lv_has lsr ls.length (gassoc ρ ls) := by
  refine ⟨h.1, h.2.1, fun q hq => ?_⟩
  obtain ⟨j, -, hj⟩ := List.mem_filterMap.mp hq
  split at hj
  · next v hv => cases hj; exact (h.2.2 j v hv).2
  · cases hj
theorem gL.set {ρ : Nat → Nat} {lsr lsr' : Array Slot} {ls : gLs} {i : Nat} {v : Value} (h : gL ρ lsr ls) (hi : i < ls.length) (hc : v.category = 1) (h' : lv_has lsr' ls.length ((i, gtr ρ v) :: (gassoc ρ ls).filter (fun q => !(q.1 == i) && !(q.1 + 1 == i && q.2.category == 2)))) : gL ρ lsr' (ls.set i (some v)) := by
  refine ⟨by rw [List.length_set]; exact h'.1, h'.2.1, fun j w hj => ?_⟩
  by_cases e : j = i
  · subst e
    rw [List.getElem?_set_self hi] at hj
    cases hj
    exact ⟨hc, h'.2.2 _ List.mem_cons_self⟩
  · rw [List.getElem?_set_ne (Ne.symm e)] at hj
    have hw := (h.2.2 j w hj).1
    refine ⟨hw, h'.2.2 (j, gtr ρ w) (List.mem_cons_of_mem _ (List.mem_filter.mpr ⟨List.mem_filterMap.mpr ⟨j, List.mem_range.mpr (List.getElem?_eq_some_iff.mp hj).1, by simp [hj]⟩, ?_⟩))⟩
    simp [e, gtr_cat, hw]
abbrev gX : Type := Program × Env × Room × State × MethodId × Array Value × List Frame × Method × Code × Nat × Nat × (Nat → Prop)
def gG (X : gX) (E : gE) (M : gM) (pc : Nat) (ls : gLs) (st : List Value) (Q : State → Prop) : Prop := match X with
  | (p, e, R, s, m, args, below, meth, c, cells, slots, A) => ∀ (H : Heap) (locs : List Loc) (lsr : Array Slot), va_P E.2.2.1 vwCl (gws E M) H → va_S A s.heap H locs → gL E.2.1 lsr ls → W p E.1 e R s m args below meth c H locs cells slots Q (F0 m pc lsr (st.map (gtr E.2.1)))
def gOk (X : gX) (E : gE) (cc : ByteArray) (own : String) (nL f lo : Nat) : Prop := match X with
  | (p, e, R, s, m, args, below, meth, c, cells, slots, A) => CallFix p m c cc nL s args gW own ∧ meth.locks = false ∧ (R.frames = f ∧ R.locals = lo ∧ cells ≤ R.cells ∧ slots ≤ R.slots) ∧ gEnv E A s
abbrev gK : Type := MethodName × ByteArray × Nat × Option FieldType × Nat × Nat
def gPost (E : gE) (post : Option Int32 → gM → Prop) : Array Value → State → Outcome → State → Prop := fun _ st oc t =>
  (∃ (r : Option Int32) (M' : gM), oc = .returned (r.map Value.int) ∧ post r M' ∧ va_P E.2.2.1 vwCl (gws E M') t.heap) ∧ va_F (gA E) st t
def gPre (E : gE) (as : List Value) (M : gM) : Array Value → State → Prop := va_Pc (as.map (gtr E.2.1)) (fun U => va_P E.2.2.1 vwCl (gws E M) U.heap ∧ gEnv E (gA E) U)
/-- a method's contract over the made objects -/
def gMet (E : gE) (k : gK) (as : List Value) (M : gM) (post : Option Int32 → gM → Prop) : Prop :=
  Met E.1 k.1 (gC k.1 k.2.1 k.2.2.1 k.2.2.2.1) { frames := k.2.2.2.2.1, cells := 0, slots := 0, locals := k.2.2.2.2.2 } (gPre E as M) (gPost E post) 0 0 (gA E)
def gQ (X : gX) (E : gE) (post : Option Int32 → gM → Prop) : State → Prop := match X with
  | (_, _, _, s, _, args, below, _, _, _, _, _) => MQ below (gPost E post) args s 0 0 (gA E)
def gRt (X : gX) (E : gE) (ret : Option FieldType) : Prop := match X with
  | (_, _, _, _, _, _, _, meth, _, cells, slots, A) => meth.sig.returnType = ret ∧ cells = 0 ∧ slots = 0 ∧ A = gA E
def gInt (P : Int32 → gM → Prop) : Option Int32 → gM → Prop := fun r M => ∃ x, r = some x ∧ P x M
def gVoid (P : gM → Prop) : Option Int32 → gM → Prop := fun r M => r = none ∧ P M
def gEntry (as : List Value) (n : Nat) : gLs := as.map some ++ List.replicate (n - as.length) none
theorem gMet.of {E : gE} {k : gK} {as : List Value} {M : gM} {post : Option Int32 → gM → Prop} (hy : plainName k.1.cls = true) (hc : as.all (fun v => v.category == 1) = true) (hn : as.length ≤ k.2.2.1)
    (body : ∀ X : gX, gOk X E k.2.1 k.1.cls k.2.2.1 k.2.2.2.2.1 k.2.2.2.2.2 → gRt X E k.2.2.2.1 → gG X E M 0 (gEntry as k.2.2.1) [] (gQ X E post)) : gMet E k as M post := by
  obtain ⟨y, cc, n, ret, f, lo⟩ := k
  refine Met.ofW (cc := cc) (maxL := n) (ret := ret) hy rfl ?_
  intro p e s m args below meth c s₁ B hml hv
  obtain ⟨rfl, hP, hEnv⟩ := hv
  have hts := atoms_spec (ws := gC y cc n ret) B.pre
  have hcat : ∀ v ∈ as, v.category = 1 := fun v hv => by simpa using List.all_eq_true.mp hc v hv
  have hsl : lg_sl (as.map (gtr E.2.1)) = (as.map (gtr E.2.1)).map Slot.val := by
    clear hP hEnv hts B hml hn hc body
    induction as with
    | nil => rfl
    | cons v as ih =>
      have h1 : (gtr E.2.1 v).category = 1 := by rw [gtr_cat]; exact hcat v List.mem_cons_self
      have h2 := ih (fun w hw => hcat w (List.mem_cons_of_mem _ hw))
      have e : lg_sl ((v :: as).map (gtr E.2.1)) = (if (gtr E.2.1 v).category = 2 then [Slot.val (gtr E.2.1 v), .second] else [.val (gtr E.2.1 v)]) ++ lg_sl (as.map (gtr E.2.1)) := rfl
      rw [e, h1, h2]
      rfl
  have hle : (lg_sl (as.map (gtr E.2.1))).length ≤ n := by rw [hsl]; simpa using hn
  have hent := lv_entry (as.map (gtr E.2.1)) (n := n) hle
  rw [lg_entry_eq]
  have hb := body (p, e, { frames := f, cells := 0, slots := 0, locals := lo }, s, m, _, below, meth, c, 0, 0, gA E) ⟨⟨B.exec, B.bytes, hml, findClass_of_methodNamed B.named, fun w hw => hts w (List.mem_cons_of_mem _ hw)⟩, B.notSynchronized, ⟨rfl, rfl, Nat.zero_le _, Nat.zero_le _⟩, hEnv⟩ ⟨B.returns, rfl, rfl, rfl⟩
  refine hb s.heap [] _ hP va_S.rf ⟨?_, hent.2.1, fun i v hv => ?_⟩
  · rw [hent.1]
    simp only [gEntry, List.length_append, List.length_map, List.length_replicate]
    have : as.length ≤ n := hn
    omega
  · have hi : i < as.length := by
      rcases Nat.lt_or_ge i as.length with h | h
      · exact h
      · exfalso
        simp only [gEntry] at hv
        rw [List.getElem?_append_right (by simpa using h)] at hv
        have h2 := List.mem_of_getElem? hv
        have h3 := (List.mem_replicate.mp h2).2
        cases h3
    simp only [gEntry] at hv
    rw [List.getElem?_append_left (by simpa using hi)] at hv
    have h1 : as[i]? = some v := by simpa using hv
    refine ⟨hcat v (List.mem_of_getElem? h1), ?_⟩
    rw [hsl, List.getElem?_toArray, List.getElem?_append_left (by simpa using hi)]
    simp [h1]
end
section
variable {X : gX} {E : gE} {cc : ByteArray} {own : String} {nL f lo : Nat} {M : gM} {pc n : Nat} {ls : gLs} {st : List Value} {Q : State → Prop}
theorem g_iconst (hX : gOk X E cc own nL f lo) {z : Int} {v : Int32} (hd : decode cc pc = .ok (.iconst z, 1)) (hv : Int32.ofInt z = v) (hn : pc + 1 = n) (kk : gG X E M n ls (.int v :: st) Q) : gG X E M pc ls st Q := by
  obtain ⟨p, e, R, s, m, args, below, meth, c, cells, slots, A⟩ := X
  intro H locs lsr hP hS hL
  subst hn
  exact lv_iconst hX.1.1 hX.1.2.1 hd hv (kk H locs lsr hP hS hL)
theorem g_bipush (hX : gOk X E cc own nL f lo) {z : Int} {v : Int32} (hd : decode cc pc = .ok (.bipush z, 2)) (hv : (Int8.ofInt z).toInt32 = v) (hn : pc + 2 = n) (kk : gG X E M n ls (.int v :: st) Q) : gG X E M pc ls st Q := by
  obtain ⟨p, e, R, s, m, args, below, meth, c, cells, slots, A⟩ := X
  intro H locs lsr hP hS hL
  subst hn
  exact lv_bipush hX.1.1 hX.1.2.1 hd hv (kk H locs lsr hP hS hL)
theorem g_sipush (hX : gOk X E cc own nL f lo) {z : Int} {v : Int32} (hd : decode cc pc = .ok (.sipush z, 3)) (hv : (Int16.ofInt z).toInt32 = v) (hn : pc + 3 = n) (kk : gG X E M n ls (.int v :: st) Q) : gG X E M pc ls st Q := by
  obtain ⟨p, e, R, s, m, args, below, meth, c, cells, slots, A⟩ := X
  intro H locs lsr hP hS hL
  subst hn
  exact lv_sipush hX.1.1 hX.1.2.1 hd hv (kk H locs lsr hP hS hL)
theorem g_iload_n (hX : gOk X E cc own nL f lo) {q : Fin 4} {i : Nat} {x : Int32} (hd : decode cc pc = .ok (.iload_n q, 1)) (hi : (q : Nat) = i) (hl : ls[i]? = some (some (.int x))) (hn : pc + 1 = n) (kk : gG X E M n ls (.int x :: st) Q) : gG X E M pc ls st Q := by
  obtain ⟨p, e, R, s, m, args, below, meth, c, cells, slots, A⟩ := X
  intro H locs lsr hP hS hL
  subst hn
  exact lv_iload_n hX.1.1 hX.1.2.1 hd hi (hL.2.2 _ _ hl).2 (kk H locs lsr hP hS hL)
theorem g_iload (hX : gOk X E cc own nL f lo) {i : Nat} {x : Int32} (hd : decode cc pc = .ok (.iload i, 2)) (hl : ls[i]? = some (some (.int x))) (hn : pc + 2 = n) (kk : gG X E M n ls (.int x :: st) Q) : gG X E M pc ls st Q := by
  obtain ⟨p, e, R, s, m, args, below, meth, c, cells, slots, A⟩ := X
  intro H locs lsr hP hS hL
  subst hn
  exact lv_iload hX.1.1 hX.1.2.1 hd (hL.2.2 _ _ hl).2 (kk H locs lsr hP hS hL)
theorem g_aload_n (hX : gOk X E cc own nL f lo) {q : Fin 4} {i a : Nat} (hd : decode cc pc = .ok (.aload_n q, 1)) (hi : (q : Nat) = i) (hl : ls[i]? = some (some (.ref a))) (hn : pc + 1 = n) (kk : gG X E M n ls (.ref a :: st) Q) : gG X E M pc ls st Q := by
  obtain ⟨p, e, R, s, m, args, below, meth, c, cells, slots, A⟩ := X
  intro H locs lsr hP hS hL
  subst hn
  exact lv_aload_n hX.1.1 hX.1.2.1 hd hi (hL.2.2 _ _ hl).2 (kk H locs lsr hP hS hL)
theorem g_aload (hX : gOk X E cc own nL f lo) {i a : Nat} (hd : decode cc pc = .ok (.aload i, 2)) (hl : ls[i]? = some (some (.ref a))) (hn : pc + 2 = n) (kk : gG X E M n ls (.ref a :: st) Q) : gG X E M pc ls st Q := by
  obtain ⟨p, e, R, s, m, args, below, meth, c, cells, slots, A⟩ := X
  intro H locs lsr hP hS hL
  subst hn
  exact lv_aload hX.1.1 hX.1.2.1 hd (hL.2.2 _ _ hl).2 (kk H locs lsr hP hS hL)
theorem g_istore_n (hX : gOk X E cc own nL f lo) {q : Fin 4} {i : Nat} {x : Int32} (hd : decode cc pc = .ok (.istore_n q, 1)) (hi : (q : Nat) = i) (hlt : i < ls.length) (hn : pc + 1 = n) (kk : gG X E M n (ls.set i (some (.int x))) st Q) : gG X E M pc ls (.int x :: st) Q := by
  obtain ⟨p, e, R, s, m, args, below, meth, c, cells, slots, A⟩ := X
  intro H locs lsr hP hS hL
  subst hn
  exact lv_istore_n hX.1.1 hX.1.2.1 hd hi hL.has hlt rfl (fun lsr' h' => kk H locs lsr' hP hS (hL.set (v := .int x) hlt rfl h'))
theorem g_istore (hX : gOk X E cc own nL f lo) {i : Nat} {x : Int32} (hd : decode cc pc = .ok (.istore i, 2)) (hlt : i < ls.length) (hn : pc + 2 = n) (kk : gG X E M n (ls.set i (some (.int x))) st Q) : gG X E M pc ls (.int x :: st) Q := by
  obtain ⟨p, e, R, s, m, args, below, meth, c, cells, slots, A⟩ := X
  intro H locs lsr hP hS hL
  subst hn
  exact lv_istore hX.1.1 hX.1.2.1 hd hL.has hlt rfl (fun lsr' h' => kk H locs lsr' hP hS (hL.set (v := .int x) hlt rfl h'))
theorem g_astore_n (hX : gOk X E cc own nL f lo) {q : Fin 4} {i a : Nat} (hd : decode cc pc = .ok (.astore_n q, 1)) (hi : (q : Nat) = i) (hlt : i < ls.length) (hn : pc + 1 = n) (kk : gG X E M n (ls.set i (some (.ref a))) st Q) : gG X E M pc ls (.ref a :: st) Q := by
  obtain ⟨p, e, R, s, m, args, below, meth, c, cells, slots, A⟩ := X
  intro H locs lsr hP hS hL
  subst hn
  exact lv_astore_n hX.1.1 hX.1.2.1 hd hi hL.has hlt rfl (fun lsr' h' => kk H locs lsr' hP hS (hL.set (v := .ref a) hlt rfl h'))
theorem g_astore (hX : gOk X E cc own nL f lo) {i a : Nat} (hd : decode cc pc = .ok (.astore i, 2)) (hlt : i < ls.length) (hn : pc + 2 = n) (kk : gG X E M n (ls.set i (some (.ref a))) st Q) : gG X E M pc ls (.ref a :: st) Q := by
  obtain ⟨p, e, R, s, m, args, below, meth, c, cells, slots, A⟩ := X
  intro H locs lsr hP hS hL
  subst hn
  exact lv_astore hX.1.1 hX.1.2.1 hd hL.has hlt rfl (fun lsr' h' => kk H locs lsr' hP hS (hL.set (v := .ref a) hlt rfl h'))
theorem g_iinc (hX : gOk X E cc own nL f lo) {i : Nat} {z : Int} {x v w : Int32} (hd : decode cc pc = .ok (.iinc i z, 3)) (hw : Int32.ofInt z = w) (hl : ls[i]? = some (some (.int x))) (hv : x + w = v) (hlt : i < ls.length) (hn : pc + 3 = n) (kk : gG X E M n (ls.set i (some (.int v))) st Q) : gG X E M pc ls st Q := by
  obtain ⟨p, e, R, s, m, args, below, meth, c, cells, slots, A⟩ := X
  intro H locs lsr hP hS hL
  subst hn
  subst hw; subst hv
  obtain ⟨j, hj⟩ : ∃ j : Nat, (gassoc E.2.1 ls)[j]? = some (i, Value.int x) := List.getElem?_of_mem (List.mem_filterMap.mpr ⟨i, List.mem_range.mpr hlt, by simp [hl, gtr]⟩)
  exact lv_iinc hX.1.1 hX.1.2.1 hd hL.has hj rfl hlt rfl (fun lsr' h' => kk H locs lsr' hP hS (hL.set (v := .int _) hlt rfl h'))
theorem g_iadd (hX : gOk X E cc own nL f lo) {x y : Int32} (hd : decode cc pc = .ok (.iadd, 1)) (hn : pc + 1 = n) (kk : gG X E M n ls (.int (x + y) :: st) Q) : gG X E M pc ls (.int y :: .int x :: st) Q := by
  obtain ⟨p, e, R, s, m, args, below, meth, c, cells, slots, A⟩ := X
  intro H locs lsr hP hS hL
  subst hn
  exact lv_iadd hX.1.1 hX.1.2.1 hd (kk H locs lsr hP hS hL)
theorem g_isub (hX : gOk X E cc own nL f lo) {x y : Int32} (hd : decode cc pc = .ok (.isub, 1)) (hn : pc + 1 = n) (kk : gG X E M n ls (.int (x - y) :: st) Q) : gG X E M pc ls (.int y :: .int x :: st) Q := by
  obtain ⟨p, e, R, s, m, args, below, meth, c, cells, slots, A⟩ := X
  intro H locs lsr hP hS hL
  subst hn
  exact lv_isub hX.1.1 hX.1.2.1 hd (kk H locs lsr hP hS hL)
theorem g_imul (hX : gOk X E cc own nL f lo) {x y : Int32} (hd : decode cc pc = .ok (.imul, 1)) (hn : pc + 1 = n) (kk : gG X E M n ls (.int (x * y) :: st) Q) : gG X E M pc ls (.int y :: .int x :: st) Q := by
  obtain ⟨p, e, R, s, m, args, below, meth, c, cells, slots, A⟩ := X
  intro H locs lsr hP hS hL
  subst hn
  exact lv_imul hX.1.1 hX.1.2.1 hd (kk H locs lsr hP hS hL)
theorem g_iand (hX : gOk X E cc own nL f lo) {x y : Int32} (hd : decode cc pc = .ok (.iand, 1)) (hn : pc + 1 = n) (kk : gG X E M n ls (.int (x &&& y) :: st) Q) : gG X E M pc ls (.int y :: .int x :: st) Q := by
  obtain ⟨p, e, R, s, m, args, below, meth, c, cells, slots, A⟩ := X
  intro H locs lsr hP hS hL
  subst hn
  exact lv_iand hX.1.1 hX.1.2.1 hd (kk H locs lsr hP hS hL)
theorem g_ishl (hX : gOk X E cc own nL f lo) {x y : Int32} (hd : decode cc pc = .ok (.ishl, 1)) (hn : pc + 1 = n) (kk : gG X E M n ls (.int (x <<< (y &&& 31)) :: st) Q) : gG X E M pc ls (.int y :: .int x :: st) Q := by
  obtain ⟨p, e, R, s, m, args, below, meth, c, cells, slots, A⟩ := X
  intro H locs lsr hP hS hL
  subst hn
  exact lv_ishl hX.1.1 hX.1.2.1 hd (kk H locs lsr hP hS hL)
theorem g_ishr (hX : gOk X E cc own nL f lo) {x y : Int32} (hd : decode cc pc = .ok (.ishr, 1)) (hn : pc + 1 = n) (kk : gG X E M n ls (.int (x >>> (y &&& 31)) :: st) Q) : gG X E M pc ls (.int y :: .int x :: st) Q := by
  obtain ⟨p, e, R, s, m, args, below, meth, c, cells, slots, A⟩ := X
  intro H locs lsr hP hS hL
  subst hn
  exact lv_ishr hX.1.1 hX.1.2.1 hd (kk H locs lsr hP hS hL)
theorem g_idiv (hX : gOk X E cc own nL f lo) {x y : Int32} (hd : decode cc pc = .ok (.idiv, 1)) (hne : ¬ y = 0) (hn : pc + 1 = n) (kk : gG X E M n ls (.int (x / y) :: st) Q) : gG X E M pc ls (.int y :: .int x :: st) Q := by
  obtain ⟨p, e, R, s, m, args, below, meth, c, cells, slots, A⟩ := X
  intro H locs lsr hP hS hL
  subst hn
  exact lv_idiv hX.1.1 hX.1.2.1 hd hne (kk H locs lsr hP hS hL)
theorem g_irem (hX : gOk X E cc own nL f lo) {x y : Int32} (hd : decode cc pc = .ok (.irem, 1)) (hne : ¬ y = 0) (hn : pc + 1 = n) (kk : gG X E M n ls (.int (x - x / y * y) :: st) Q) : gG X E M pc ls (.int y :: .int x :: st) Q := by
  obtain ⟨p, e, R, s, m, args, below, meth, c, cells, slots, A⟩ := X
  intro H locs lsr hP hS hL
  subst hn
  exact lv_irem hX.1.1 hX.1.2.1 hd hne (kk H locs lsr hP hS hL)
theorem g_iaddN (hX : gOk X E cc own nL f lo) {a b : Nat} (hd : decode cc pc = .ok (.iadd, 1)) (hn : pc + 1 = n) (kk : gG X E M n ls (.int (nI (a + b)) :: st) Q) : gG X E M pc ls (.int (nI b) :: .int (nI a) :: st) Q := by
  obtain ⟨p, e, R, s, m, args, below, meth, c, cells, slots, A⟩ := X
  intro H locs lsr hP hS hL
  subst hn
  exact lv_iadd hX.1.1 hX.1.2.1 hd (by rw [nI_add]; exact kk H locs lsr hP hS hL)
theorem g_imulN (hX : gOk X E cc own nL f lo) {a b : Nat} (hd : decode cc pc = .ok (.imul, 1)) (hn : pc + 1 = n) (kk : gG X E M n ls (.int (nI (a * b)) :: st) Q) : gG X E M pc ls (.int (nI b) :: .int (nI a) :: st) Q := by
  obtain ⟨p, e, R, s, m, args, below, meth, c, cells, slots, A⟩ := X
  intro H locs lsr hP hS hL
  subst hn
  exact lv_imul hX.1.1 hX.1.2.1 hd (by rw [pk_mul]; exact kk H locs lsr hP hS hL)
theorem g_isubN (hX : gOk X E cc own nL f lo) {a b : Nat} (hd : decode cc pc = .ok (.isub, 1)) (hle : b ≤ a) (hn : pc + 1 = n) (kk : gG X E M n ls (.int (nI (a - b)) :: st) Q) : gG X E M pc ls (.int (nI b) :: .int (nI a) :: st) Q := by
  obtain ⟨p, e, R, s, m, args, below, meth, c, cells, slots, A⟩ := X
  intro H locs lsr hP hS hL
  subst hn
  exact lv_isub hX.1.1 hX.1.2.1 hd (by rw [pk_sub hle]; exact kk H locs lsr hP hS hL)
theorem g_iincN (hX : gOk X E cc own nL f lo) {i a b : Nat} {z : Int} (hd : decode cc pc = .ok (.iinc i z, 3)) (hw : Int32.ofInt z = nI b) (hl : ls[i]? = some (some (.int (nI a)))) (hlt : i < ls.length) (hn : pc + 3 = n) (kk : gG X E M n (ls.set i (some (.int (nI (a + b))))) st Q) : gG X E M pc ls st Q := g_iinc hX hd hw hl (nI_add a b) hlt hn kk
theorem g_i2c (hX : gOk X E cc own nL f lo) {x : Int32} (hd : decode cc pc = .ok (.i2c, 1)) (hn : pc + 1 = n) (kk : gG X E M n ls (.int (x.toUInt32 % 65536).toInt32 :: st) Q) : gG X E M pc ls (.int x :: st) Q := by
  obtain ⟨p, e, R, s, m, args, below, meth, c, cells, slots, A⟩ := X
  intro H locs lsr hP hS hL
  subst hn
  exact lv_i2c hX.1.1 hX.1.2.1 hd rfl (kk H locs lsr hP hS hL)
theorem g_dup (hX : gOk X E cc own nL f lo) {v : Value} (hd : decode cc pc = .ok (.dup, 1)) (hv : v.category = 1) (hn : pc + 1 = n) (kk : gG X E M n ls (v :: v :: st) Q) : gG X E M pc ls (v :: st) Q := by
  obtain ⟨p, e, R, s, m, args, below, meth, c, cells, slots, A⟩ := X
  intro H locs lsr hP hS hL
  subst hn
  exact lv_dup hX.1.1 hX.1.2.1 hd ((gtr_cat _ _).trans hv) (kk H locs lsr hP hS hL)
theorem g_dup2 (hX : gOk X E cc own nL f lo) {v w : Value} (hd : decode cc pc = .ok (.dup2, 1)) (hv : v.category = 1) (hw : w.category = 1) (hn : pc + 1 = n) (kk : gG X E M n ls (v :: w :: v :: w :: st) Q) : gG X E M pc ls (v :: w :: st) Q := by
  obtain ⟨p, e, R, s, m, args, below, meth, c, cells, slots, A⟩ := X
  intro H locs lsr hP hS hL
  subst hn
  exact lv_dup2_11 hX.1.1 hX.1.2.1 hd ((gtr_cat _ _).trans hv) ((gtr_cat _ _).trans hw) (kk H locs lsr hP hS hL)
theorem g_pop (hX : gOk X E cc own nL f lo) {v : Value} (hd : decode cc pc = .ok (.pop, 1)) (hv : v.category = 1) (hn : pc + 1 = n) (kk : gG X E M n ls st Q) : gG X E M pc ls (v :: st) Q := by
  obtain ⟨p, e, R, s, m, args, below, meth, c, cells, slots, A⟩ := X
  intro H locs lsr hP hS hL
  subst hn
  exact lv_pop hX.1.1 hX.1.2.1 hd ((gtr_cat _ _).trans hv) (kk H locs lsr hP hS hL)
theorem g_goto (hX : gOk X E cc own nL f lo) {off : Int} (hd : decode cc pc = .ok (.goto off, 3)) (hn : (pc : Int) + off = (n : Int)) (kk : gG X E M n ls st Q) : gG X E M pc ls st Q := by
  obtain ⟨p, e, R, s, m, args, below, meth, c, cells, slots, A⟩ := X
  intro H locs lsr hP hS hL
  exact lv_goto hX.1.1 hX.1.2.1 hd hn (kk H locs lsr hP hS hL)
theorem g_if_eq (hX : gOk X E cc own nL f lo) {x : Int32} {off : Int} {tgt : Nat} (hd : decode cc pc = .ok (.ifCond .eq off, 3)) (ht : (pc : Int) + off = (tgt : Int)) (hn : pc + 3 = n) (kt : x = 0 → gG X E M tgt ls st Q) (kf : ¬ (x = 0) → gG X E M n ls st Q) : gG X E M pc ls (.int x :: st) Q := by
  obtain ⟨p, e, R, s, m, args, below, meth, c, cells, slots, A⟩ := X
  intro H locs lsr hP hS hL
  subst hn
  exact lv_if_eq hX.1.1 hX.1.2.1 hd ht (fun h => kt h H locs lsr hP hS hL) (fun h => kf h H locs lsr hP hS hL)
theorem g_if_ne (hX : gOk X E cc own nL f lo) {x : Int32} {off : Int} {tgt : Nat} (hd : decode cc pc = .ok (.ifCond .ne off, 3)) (ht : (pc : Int) + off = (tgt : Int)) (hn : pc + 3 = n) (kt : ¬ x = 0 → gG X E M tgt ls st Q) (kf : x = 0 → gG X E M n ls st Q) : gG X E M pc ls (.int x :: st) Q := by
  obtain ⟨p, e, R, s, m, args, below, meth, c, cells, slots, A⟩ := X
  intro H locs lsr hP hS hL
  subst hn
  exact lv_if_ne hX.1.1 hX.1.2.1 hd ht (fun h => kt h H locs lsr hP hS hL) (fun h => kf h H locs lsr hP hS hL)
theorem g_if_lt (hX : gOk X E cc own nL f lo) {x : Int32} {off : Int} {tgt : Nat} (hd : decode cc pc = .ok (.ifCond .lt off, 3)) (ht : (pc : Int) + off = (tgt : Int)) (hn : pc + 3 = n) (kt : x < 0 → gG X E M tgt ls st Q) (kf : ¬ (x < 0) → gG X E M n ls st Q) : gG X E M pc ls (.int x :: st) Q := by
  obtain ⟨p, e, R, s, m, args, below, meth, c, cells, slots, A⟩ := X
  intro H locs lsr hP hS hL
  subst hn
  exact lv_if_lt hX.1.1 hX.1.2.1 hd ht (fun h => kt h H locs lsr hP hS hL) (fun h => kf h H locs lsr hP hS hL)
theorem g_if_ge (hX : gOk X E cc own nL f lo) {x : Int32} {off : Int} {tgt : Nat} (hd : decode cc pc = .ok (.ifCond .ge off, 3)) (ht : (pc : Int) + off = (tgt : Int)) (hn : pc + 3 = n) (kt : 0 ≤ x → gG X E M tgt ls st Q) (kf : ¬ (0 ≤ x) → gG X E M n ls st Q) : gG X E M pc ls (.int x :: st) Q := by
  obtain ⟨p, e, R, s, m, args, below, meth, c, cells, slots, A⟩ := X
  intro H locs lsr hP hS hL
  subst hn
  exact lv_if_ge hX.1.1 hX.1.2.1 hd ht (fun h => kt h H locs lsr hP hS hL) (fun h => kf h H locs lsr hP hS hL)
theorem g_if_gt (hX : gOk X E cc own nL f lo) {x : Int32} {off : Int} {tgt : Nat} (hd : decode cc pc = .ok (.ifCond .gt off, 3)) (ht : (pc : Int) + off = (tgt : Int)) (hn : pc + 3 = n) (kt : 0 < x → gG X E M tgt ls st Q) (kf : ¬ (0 < x) → gG X E M n ls st Q) : gG X E M pc ls (.int x :: st) Q := by
  obtain ⟨p, e, R, s, m, args, below, meth, c, cells, slots, A⟩ := X
  intro H locs lsr hP hS hL
  subst hn
  exact lv_if_gt hX.1.1 hX.1.2.1 hd ht (fun h => kt h H locs lsr hP hS hL) (fun h => kf h H locs lsr hP hS hL)
theorem g_if_le (hX : gOk X E cc own nL f lo) {x : Int32} {off : Int} {tgt : Nat} (hd : decode cc pc = .ok (.ifCond .le off, 3)) (ht : (pc : Int) + off = (tgt : Int)) (hn : pc + 3 = n) (kt : x ≤ 0 → gG X E M tgt ls st Q) (kf : ¬ (x ≤ 0) → gG X E M n ls st Q) : gG X E M pc ls (.int x :: st) Q := by
  obtain ⟨p, e, R, s, m, args, below, meth, c, cells, slots, A⟩ := X
  intro H locs lsr hP hS hL
  subst hn
  exact lv_if_le hX.1.1 hX.1.2.1 hd ht (fun h => kt h H locs lsr hP hS hL) (fun h => kf h H locs lsr hP hS hL)
theorem g_icmp_eq (hX : gOk X E cc own nL f lo) {x y : Int32} {off : Int} {tgt : Nat} (hd : decode cc pc = .ok (.if_icmp .eq off, 3)) (ht : (pc : Int) + off = (tgt : Int)) (hn : pc + 3 = n) (kt : x = y → gG X E M tgt ls st Q) (kf : ¬ (x = y) → gG X E M n ls st Q) : gG X E M pc ls (.int y :: .int x :: st) Q := by
  obtain ⟨p, e, R, s, m, args, below, meth, c, cells, slots, A⟩ := X
  intro H locs lsr hP hS hL
  subst hn
  exact lv_icmp_eq hX.1.1 hX.1.2.1 hd ht (fun h => kt h H locs lsr hP hS hL) (fun h => kf h H locs lsr hP hS hL)
theorem g_icmp_eqN (hX : gOk X E cc own nL f lo) {a b : Nat} {off : Int} {tgt : Nat} (hd : decode cc pc = .ok (.if_icmp .eq off, 3)) (ht : (pc : Int) + off = (tgt : Int)) (hn : pc + 3 = n) (ha : a < 2 ^ 31) (hb : b < 2 ^ 31) (kt : a = b → gG X E M tgt ls st Q) (kf : ¬ (a = b) → gG X E M n ls st Q) : gG X E M pc ls (.int (nI b) :: .int (nI a) :: st) Q :=
  g_icmp_eq hX hd ht hn (fun h => kt ((nI_eq ha hb).mp h)) (fun h => kf (fun q => h ((nI_eq ha hb).mpr q)))
theorem g_icmp_ne (hX : gOk X E cc own nL f lo) {x y : Int32} {off : Int} {tgt : Nat} (hd : decode cc pc = .ok (.if_icmp .ne off, 3)) (ht : (pc : Int) + off = (tgt : Int)) (hn : pc + 3 = n) (kt : ¬ x = y → gG X E M tgt ls st Q) (kf : x = y → gG X E M n ls st Q) : gG X E M pc ls (.int y :: .int x :: st) Q := by
  obtain ⟨p, e, R, s, m, args, below, meth, c, cells, slots, A⟩ := X
  intro H locs lsr hP hS hL
  subst hn
  exact lv_icmp_ne hX.1.1 hX.1.2.1 hd ht (fun h => kt h H locs lsr hP hS hL) (fun h => kf h H locs lsr hP hS hL)
theorem g_icmp_neN (hX : gOk X E cc own nL f lo) {a b : Nat} {off : Int} {tgt : Nat} (hd : decode cc pc = .ok (.if_icmp .ne off, 3)) (ht : (pc : Int) + off = (tgt : Int)) (hn : pc + 3 = n) (ha : a < 2 ^ 31) (hb : b < 2 ^ 31) (kt : ¬ a = b → gG X E M tgt ls st Q) (kf : a = b → gG X E M n ls st Q) : gG X E M pc ls (.int (nI b) :: .int (nI a) :: st) Q :=
  g_icmp_ne hX hd ht hn (fun h => kt ((not_congr (nI_eq ha hb)).mp h)) (fun h => kf ((nI_eq ha hb).mp h))
theorem g_icmp_lt (hX : gOk X E cc own nL f lo) {x y : Int32} {off : Int} {tgt : Nat} (hd : decode cc pc = .ok (.if_icmp .lt off, 3)) (ht : (pc : Int) + off = (tgt : Int)) (hn : pc + 3 = n) (kt : x < y → gG X E M tgt ls st Q) (kf : ¬ (x < y) → gG X E M n ls st Q) : gG X E M pc ls (.int y :: .int x :: st) Q := by
  obtain ⟨p, e, R, s, m, args, below, meth, c, cells, slots, A⟩ := X
  intro H locs lsr hP hS hL
  subst hn
  exact lv_icmp_lt hX.1.1 hX.1.2.1 hd ht (fun h => kt h H locs lsr hP hS hL) (fun h => kf h H locs lsr hP hS hL)
theorem g_icmp_ltN (hX : gOk X E cc own nL f lo) {a b : Nat} {off : Int} {tgt : Nat} (hd : decode cc pc = .ok (.if_icmp .lt off, 3)) (ht : (pc : Int) + off = (tgt : Int)) (hn : pc + 3 = n) (ha : a < 2 ^ 31) (hb : b < 2 ^ 31) (kt : a < b → gG X E M tgt ls st Q) (kf : ¬ (a < b) → gG X E M n ls st Q) : gG X E M pc ls (.int (nI b) :: .int (nI a) :: st) Q :=
  g_icmp_lt hX hd ht hn (fun h => kt ((nI_ltI ha hb).mp h)) (fun h => kf (fun q => h ((nI_ltI ha hb).mpr q)))
theorem g_icmp_ge (hX : gOk X E cc own nL f lo) {x y : Int32} {off : Int} {tgt : Nat} (hd : decode cc pc = .ok (.if_icmp .ge off, 3)) (ht : (pc : Int) + off = (tgt : Int)) (hn : pc + 3 = n) (kt : y ≤ x → gG X E M tgt ls st Q) (kf : ¬ (y ≤ x) → gG X E M n ls st Q) : gG X E M pc ls (.int y :: .int x :: st) Q := by
  obtain ⟨p, e, R, s, m, args, below, meth, c, cells, slots, A⟩ := X
  intro H locs lsr hP hS hL
  subst hn
  exact lv_icmp_ge hX.1.1 hX.1.2.1 hd ht (fun h => kt h H locs lsr hP hS hL) (fun h => kf h H locs lsr hP hS hL)
theorem g_icmp_geN (hX : gOk X E cc own nL f lo) {a b : Nat} {off : Int} {tgt : Nat} (hd : decode cc pc = .ok (.if_icmp .ge off, 3)) (ht : (pc : Int) + off = (tgt : Int)) (hn : pc + 3 = n) (ha : a < 2 ^ 31) (hb : b < 2 ^ 31) (kt : b ≤ a → gG X E M tgt ls st Q) (kf : ¬ (b ≤ a) → gG X E M n ls st Q) : gG X E M pc ls (.int (nI b) :: .int (nI a) :: st) Q :=
  g_icmp_ge hX hd ht hn (fun h => kt ((nI_leI hb ha).mp h)) (fun h => kf (fun q => h ((nI_leI hb ha).mpr q)))
theorem g_icmp_gt (hX : gOk X E cc own nL f lo) {x y : Int32} {off : Int} {tgt : Nat} (hd : decode cc pc = .ok (.if_icmp .gt off, 3)) (ht : (pc : Int) + off = (tgt : Int)) (hn : pc + 3 = n) (kt : y < x → gG X E M tgt ls st Q) (kf : ¬ (y < x) → gG X E M n ls st Q) : gG X E M pc ls (.int y :: .int x :: st) Q := by
  obtain ⟨p, e, R, s, m, args, below, meth, c, cells, slots, A⟩ := X
  intro H locs lsr hP hS hL
  subst hn
  exact lv_icmp_gt hX.1.1 hX.1.2.1 hd ht (fun h => kt h H locs lsr hP hS hL) (fun h => kf h H locs lsr hP hS hL)
theorem g_icmp_gtN (hX : gOk X E cc own nL f lo) {a b : Nat} {off : Int} {tgt : Nat} (hd : decode cc pc = .ok (.if_icmp .gt off, 3)) (ht : (pc : Int) + off = (tgt : Int)) (hn : pc + 3 = n) (ha : a < 2 ^ 31) (hb : b < 2 ^ 31) (kt : b < a → gG X E M tgt ls st Q) (kf : ¬ (b < a) → gG X E M n ls st Q) : gG X E M pc ls (.int (nI b) :: .int (nI a) :: st) Q :=
  g_icmp_gt hX hd ht hn (fun h => kt ((nI_ltI hb ha).mp h)) (fun h => kf (fun q => h ((nI_ltI hb ha).mpr q)))
theorem g_icmp_le (hX : gOk X E cc own nL f lo) {x y : Int32} {off : Int} {tgt : Nat} (hd : decode cc pc = .ok (.if_icmp .le off, 3)) (ht : (pc : Int) + off = (tgt : Int)) (hn : pc + 3 = n) (kt : x ≤ y → gG X E M tgt ls st Q) (kf : ¬ (x ≤ y) → gG X E M n ls st Q) : gG X E M pc ls (.int y :: .int x :: st) Q := by
  obtain ⟨p, e, R, s, m, args, below, meth, c, cells, slots, A⟩ := X
  intro H locs lsr hP hS hL
  subst hn
  exact lv_icmp_le hX.1.1 hX.1.2.1 hd ht (fun h => kt h H locs lsr hP hS hL) (fun h => kf h H locs lsr hP hS hL)
theorem g_icmp_leN (hX : gOk X E cc own nL f lo) {a b : Nat} {off : Int} {tgt : Nat} (hd : decode cc pc = .ok (.if_icmp .le off, 3)) (ht : (pc : Int) + off = (tgt : Int)) (hn : pc + 3 = n) (ha : a < 2 ^ 31) (hb : b < 2 ^ 31) (kt : a ≤ b → gG X E M tgt ls st Q) (kf : ¬ (a ≤ b) → gG X E M n ls st Q) : gG X E M pc ls (.int (nI b) :: .int (nI a) :: st) Q :=
  g_icmp_le hX hd ht hn (fun h => kt ((nI_leI ha hb).mp h)) (fun h => kf (fun q => h ((nI_leI ha hb).mpr q)))
theorem g_tableIn (hX : gOk X E cc own nL f lo) {dflt l0 h0 : Int} {offs : Array Int} {len : Nat} {x : Int32} {off : Int} (hd : decode cc pc = .ok (.tableswitch dflt l0 h0 offs, len)) (h1 : ¬ x.toInt < l0) (h2 : ¬ h0 < x.toInt) (ho : offs[(x.toInt - l0).toNat]? = some off) (hn : (pc : Int) + off = (n : Int)) (kk : gG X E M n ls st Q) : gG X E M pc ls (.int x :: st) Q := by
  obtain ⟨p, e, R, s, m, args, below, meth, c, cells, slots, A⟩ := X
  intro H locs lsr hP hS hL
  exact lv_tableIn hX.1.1 hX.1.2.1 hd h1 h2 ho hn (kk H locs lsr hP hS hL)
theorem g_tableOut (hX : gOk X E cc own nL f lo) {dflt l0 h0 : Int} {offs : Array Int} {len : Nat} {x : Int32} (hd : decode cc pc = .ok (.tableswitch dflt l0 h0 offs, len)) (h : x.toInt < l0 ∨ h0 < x.toInt) (hn : (pc : Int) + dflt = (n : Int)) (kk : gG X E M n ls st Q) : gG X E M pc ls (.int x :: st) Q := by
  obtain ⟨p, e, R, s, m, args, below, meth, c, cells, slots, A⟩ := X
  intro H locs lsr hP hS hL
  exact lv_tableOut hX.1.1 hX.1.2.1 hd h hn (kk H locs lsr hP hS hL)
theorem g_lookup (hX : gOk X E cc own nL f lo) {dflt : Int} {ps : Array (Int × Int)} {len : Nat} {x : Int32} {off : Int} (hd : decode cc pc = .ok (.lookupswitch dflt ps, len)) (hp : (ps.toList.zip (ps.toList.drop 1)).all (fun (a, next) => a.1 < next.1) = true) (ho : Op.lookupswitch.offset ps.toList dflt x.toInt = off) (hn : (pc : Int) + off = (n : Int)) (kk : gG X E M n ls st Q) : gG X E M pc ls (.int x :: st) Q := by
  obtain ⟨p, e, R, s, m, args, below, meth, c, cells, slots, A⟩ := X
  intro H locs lsr hP hS hL
  exact lv_lookup hX.1.1 hX.1.2.1 hd hp ho hn (kk H locs lsr hP hS hL)
def gFl (own : String) (idx ci k : Nat) : Prop := ∃ (C : String) (T : u_T) (N : Nat), vwCl[ci]? = some (C, T, N) ∧ (∀ w ∈ u_ws C T N, w ∈ gW) ∧ k < N ∧ Cond.fieldLink own idx (T k).1 (T k).2.1 (T k).2.2.1 ∈ gW
def gFp (own : String) (idx ci k : Nat) (ty : FieldType) : Prop := ∃ (C : String) (T : u_T) (N : Nat) (ty0 : Nat → FieldType), vwCl[ci]? = some (C, T, N) ∧ (∀ w ∈ u_ws C T N, w ∈ gW) ∧ k < N ∧ Cond.fieldLink own idx (T k).1 (T k).2.1 (T k).2.2.1 ∈ gW ∧ (∀ k, k < N → parseFieldDescriptor (T k).2.2.1 = some (ty0 k)) ∧ (∀ a, a < N → ∀ b, b < N → a ≠ b → (T a).2.1 ≠ (T b).2.1) ∧ (T k).2.2.2 = false ∧ parseFieldDescriptor (T k).2.2.1 = some ty
theorem g_getV (hX : gOk X E cc own nL f lo) {idx ci k a : Nat} {fs : List (Option Nat)} {o : Option Nat} (hF : gFl own idx ci k) (hs : shp[a]? = some (0, ci, fs)) (hf : fs[k]? = some o) (hd : decode cc pc = .ok (.getfield idx, 3)) {p e R s m args below meth c cells slots A} (eX : X = (p, e, R, s, m, args, below, meth, c, cells, slots, A)) {H : Heap} {locs : List Loc} {lsr : Array Slot} {rest : List Value} (hP : va_P E.2.2.1 vwCl (gws E M) H)
    (kk : W p E.1 e R s m args below meth c H locs cells slots Q (F0 m (pc + 3) lsr (gfv E.2.1 (M a) k o :: rest))) : W p E.1 e R s m args below meth c H locs cells slots Q (F0 m pc lsr (.ref (E.2.1 a) :: rest)) := by
  subst eX
  obtain ⟨C, T, N, h1, h2, h3, h4⟩ := hF
  have hv : (gfs E.2.1 (M a) 0 fs)[k]? = some (gfv E.2.1 (M a) k o) := by rw [gfs_get, hf]; simp
  exact va_get hX.1.1 hX.1.2.1 hX.1.2.2.2.2 h2 hX.1.2.2.2.1 hX.2.2.2.1 hP a (gws_get hs) h1 k h3 (hX.1.2.2.2.2 _ h4) (fun _ h => h) hv hd kk
theorem g_getI (hX : gOk X E cc own nL f lo) {idx ci k a : Nat} {fs : List (Option Nat)} (hF : gFl own idx ci k) (hs : shp[a]? = some (0, ci, fs)) (hf : fs[k]? = some none) (hd : decode cc pc = .ok (.getfield idx, 3)) (hn : pc + 3 = n) (kk : gG X E M n ls (.int (M a k) :: st) Q) : gG X E M pc ls (.ref a :: st) Q := by
  obtain ⟨p, e, R, s, m, args, below, meth, c, cells, slots, A⟩ := X
  intro H locs lsr hP hS hL
  subst hn
  exact g_getV hX hF hs hf hd rfl hP (kk H locs lsr hP hS hL)
theorem g_getR (hX : gOk X E cc own nL f lo) {idx ci k a b : Nat} {fs : List (Option Nat)} (hF : gFl own idx ci k) (hs : shp[a]? = some (0, ci, fs)) (hf : fs[k]? = some (some b)) (hd : decode cc pc = .ok (.getfield idx, 3)) (hn : pc + 3 = n) (kk : gG X E M n ls (.ref b :: st) Q) : gG X E M pc ls (.ref a :: st) Q := by
  obtain ⟨p, e, R, s, m, args, below, meth, c, cells, slots, A⟩ := X
  intro H locs lsr hP hS hL
  subst hn
  exact g_getV hX hF hs hf hd rfl hP (kk H locs lsr hP hS hL)
theorem g_putV (hX : gOk X E cc own nL f lo) {idx ci k a : Nat} {fs : List (Option Nat)} {ty : FieldType} {x : Int32} (hF : gFp own idx ci k ty) (hs : shp[a]? = some (0, ci, fs)) (hf : fs[k]? = some none) (hn1 : narrow ty (.int x) = .int x) (hfit : fits ty (.int x) = true) (hd : decode cc pc = .ok (.putfield idx, 3)) (hn : pc + 3 = n) (kk : gG X E (gset M a (upd (M a) k x)) n ls st Q) : gG X E M pc ls (.int x :: .ref a :: st) Q := by
  obtain ⟨p, e, R, s, m, args, below, meth, c, cells, slots, A⟩ := X
  intro H locs lsr hP hS hL
  subst hn
  obtain ⟨C, T, N, ty0, h1, h2, h3, h4, h5, h6, h7, h8⟩ := hF
  have hlen : k < (gfs E.2.1 (M a) 0 fs).length := by rw [gfs_len]; exact (List.getElem?_eq_some_iff.mp hf).1
  refine va_put hX.1.1 hX.1.2.1 hX.1.2.2.2.2 h2 ty0 h5 h6 hX.1.2.2.2.1 hX.2.2.2.1 hP hX.2.2.2.D hS a (gws_get hs) h1 k h3 (hX.1.2.2.2.2 _ h4) (fun _ h => h) h7 h8 hn1 hfit hlen hd (fun H1 locs1 hP1 hD1 hS1 => kk H1 locs1 lsr ?_ hS1 hL)
  have hP1 : va_P E.2.2.1 vwCl ((gws E M).set a (E.2.1 a, .inr (ci, (gfs E.2.1 (M a) 0 fs).set k (.int x)))) H1 := hP1
  rw [gfs_set _ _ _ _ _ hf] at hP1
  have e := gws_set (E := E) (M := M) (r := upd (M a) k x) hs
  rw [← e]
  exact hP1
theorem g_putI (hX : gOk X E cc own nL f lo) {idx ci k a : Nat} {fs : List (Option Nat)} {x : Int32} (hF : gFp own idx ci k .int) (hs : shp[a]? = some (0, ci, fs)) (hf : fs[k]? = some none) (hd : decode cc pc = .ok (.putfield idx, 3)) (hn : pc + 3 = n) (kk : gG X E (gset M a (upd (M a) k x)) n ls st Q) : gG X E M pc ls (.int x :: .ref a :: st) Q := g_putV hX hF hs hf rfl rfl hd hn kk
theorem g_putZ (hX : gOk X E cc own nL f lo) {idx ci k a : Nat} {fs : List (Option Nat)} {x : Int32} (hF : gFp own idx ci k .boolean) (hs : shp[a]? = some (0, ci, fs)) (hf : fs[k]? = some none) (hx : x = 0 ∨ x = 1) (hd : decode cc pc = .ok (.putfield idx, 3)) (hn : pc + 3 = n) (kk : gG X E (gset M a (upd (M a) k x)) n ls st Q) : gG X E M pc ls (.int x :: .ref a :: st) Q := g_putV hX hF hs hf (by rcases hx with rfl | rfl <;> rfl) (by rcases hx with rfl | rfl <;> rfl) hd hn kk
theorem g_iald (hX : gOk X E cc own nL f lo) {a N j : Nat} {fs : List (Option Nat)} {i : Int32} (hs : shp[a]? = some (1, N, fs)) (hi : i = nI j) (hj : j < N) (hN : Nat.ble N 5000 = true) (hd : decode cc pc = .ok (.iaload, 1)) (hn : pc + 1 = n) (kk : gG X E M n ls (.int (M a j) :: st) Q) : gG X E M pc ls (.int i :: .ref a :: st) Q := by
  obtain ⟨p, e, R, s, m, args, below, meth, c, cells, slots, A⟩ := X
  intro H locs lsr hP hS hL
  subst hn
  have hN' : N ≤ 5000 := Nat.le_of_ble_eq_true hN
  have hc : i.toNatClampNeg = j := by rw [hi]; exact nI_clamp (by omega)
  rw [← hc] at kk
  exact va_iald hX.1.1 hX.1.2.1 hX.2.2.2.1 hP a 0 (gws_get hs) rfl (by rw [hi]; exact vp_in_nI (N := N) hj (by omega)) hd (kk H locs lsr hP hS hL)
theorem g_cald (hX : gOk X E cc own nL f lo) {a N j : Nat} {fs : List (Option Nat)} {i : Int32} (hs : shp[a]? = some (2, N, fs)) (hi : i = nI j) (hj : j < N) (hN : Nat.ble N 5000 = true) (hd : decode cc pc = .ok (.caload, 1)) (hn : pc + 1 = n) (kk : gG X E M n ls (.int (M a j) :: st) Q) : gG X E M pc ls (.int i :: .ref a :: st) Q := by
  obtain ⟨p, e, R, s, m, args, below, meth, c, cells, slots, A⟩ := X
  intro H locs lsr hP hS hL
  subst hn
  have hN' : N ≤ 5000 := Nat.le_of_ble_eq_true hN
  have hc : i.toNatClampNeg = j := by rw [hi]; exact nI_clamp (by omega)
  rw [← hc] at kk
  exact va_cald hX.1.1 hX.1.2.1 hX.2.2.2.1 hP a 1 (gws_get hs) rfl (by rw [hi]; exact vp_in_nI (N := N) hj (by omega)) hd (kk H locs lsr hP hS hL)
theorem g_iast (hX : gOk X E cc own nL f lo) {a N j : Nat} {fs : List (Option Nat)} {i x : Int32} (hs : shp[a]? = some (1, N, fs)) (hi : i = nI j) (hj : j < N) (hN : Nat.ble N 5000 = true) (hd : decode cc pc = .ok (.iastore, 1)) (hn : pc + 1 = n) (kk : gG X E (gset M a (upd (M a) j x)) n ls st Q) : gG X E M pc ls (.int x :: .int i :: .ref a :: st) Q := by
  obtain ⟨p, e, R, s, m, args, below, meth, c, cells, slots, A⟩ := X
  intro H locs lsr hP hS hL
  subst hn
  have hN' : N ≤ 5000 := Nat.le_of_ble_eq_true hN
  have hc : i.toNatClampNeg = j := by rw [hi]; exact nI_clamp (by omega)
  rw [← hc] at kk
  refine va_iast hX.1.1 hX.1.2.1 hX.2.2.2.1 hP hX.2.2.2.D hS a 0 (gws_get hs) rfl (by rw [hi]; exact vp_in_nI (N := N) hj (by omega)) hd (fun H1 locs1 hP1 hD1 hS1 => kk H1 locs1 lsr ?_ hS1 hL)
  have e := gws_set (E := E) (M := M) (r := upd (M a) i.toNatClampNeg x) hs
  rw [← e]
  exact hP1
theorem g_cast (hX : gOk X E cc own nL f lo) {a N j : Nat} {fs : List (Option Nat)} {i x : Int32} (hs : shp[a]? = some (2, N, fs)) (hi : i = nI j) (hj : j < N) (hN : Nat.ble N 5000 = true) (hd : decode cc pc = .ok (.castore, 1)) (hn : pc + 1 = n) (kk : gG X E (gset M a (upd (M a) j (vp_nar .char x))) n ls st Q) : gG X E M pc ls (.int x :: .int i :: .ref a :: st) Q := by
  obtain ⟨p, e, R, s, m, args, below, meth, c, cells, slots, A⟩ := X
  intro H locs lsr hP hS hL
  subst hn
  have hN' : N ≤ 5000 := Nat.le_of_ble_eq_true hN
  have hc : i.toNatClampNeg = j := by rw [hi]; exact nI_clamp (by omega)
  rw [← hc] at kk
  refine va_cast hX.1.1 hX.1.2.1 hX.2.2.2.1 hP hX.2.2.2.D hS a 1 (gws_get hs) rfl (by rw [hi]; exact vp_in_nI (N := N) hj (by omega)) hd (fun H1 locs1 hP1 hD1 hS1 => kk H1 locs1 lsr ?_ hS1 hL)
  have e := gws_set (E := E) (M := M) (r := upd (M a) i.toNatClampNeg (vp_nar .char x)) hs
  rw [← e]
  exact hP1
theorem g_aald (hX : gOk X E cc own nL f lo) {a N j b : Nat} {fs : List (Option Nat)} {i : Int32} (hs : shp[a]? = some (3, N, fs)) (hi : i = nI j) (hj : j < N) (hb : fs[j]? = some (some b)) (hN : Nat.ble N 5000 = true) (hd : decode cc pc = .ok (.aaload, 1)) (hn : pc + 1 = n) (kk : gG X E M n ls (.ref b :: st) Q) : gG X E M pc ls (.int i :: .ref a :: st) Q := by
  obtain ⟨p, e, R, s, m, args, below, meth, c, cells, slots, A⟩ := X
  intro H locs lsr hP hS hL
  subst hn
  have hN' : N ≤ 5000 := Nat.le_of_ble_eq_true hN
  have hc : i.toNatClampNeg = j := by rw [hi]; exact nI_clamp (by omega)
  refine va_aldq hX.1.1 hX.1.2.1 hX.2.2.2.1 hP a 2 (gws_get hs) rfl (by rw [hi]; exact vp_in_nI (N := N) hj (by omega)) hd ?_
  have hq : (fs.getD j none).map E.2.1 = some (E.2.1 b) := by simp [List.getD, hb]
  rw [hc]
  dsimp only
  rw [hq]
  exact kk H locs lsr hP hS hL
theorem g_alen (hX : gOk X E cc own nL f lo) {a N : Nat} {fs : List (Option Nat)} (hs : shp[a]? = some (1, N, fs)) (hd : decode cc pc = .ok (.arraylength, 1)) (hn : pc + 1 = n) (kk : gG X E M n ls (.int (nI N) :: st) Q) : gG X E M pc ls (.ref a :: st) Q := by
  obtain ⟨p, e, R, s, m, args, below, meth, c, cells, slots, A⟩ := X
  intro H locs lsr hP hS hL
  subst hn
  exact va_alen hX.1.1 hX.1.2.1 hX.2.2.2.1 hP a 0 (gws_get hs) rfl rfl hd (kk H locs lsr hP hS hL)
theorem g_least (hX : gOk X E cc own nL f lo) {idx : Nat} (hlink : Cond.fieldLink own idx RX7 "LEAST_SETTINGS" "[I" ∈ gW) (hd : decode cc pc = .ok (.getstatic idx, 3)) (hn : pc + 3 = n) (kk : gG X E M n ls (.ref 134 :: st) Q) : gG X E M pc ls st Q := by
  obtain ⟨p, e, R, s, m, args, below, meth, c, cells, slots, A⟩ := X
  intro H locs lsr hP hS hL
  subst hn
  exact va_gets hX.1.1 hX.1.2.1 hX.2.2.2.2.1 hS hX.1.2.2.2.1 (hX.1.2.2.2.2 _ hlink) (fun _ h => h) hd (kk H locs lsr hP hS hL)
theorem g_least_ld (hX : gOk X E cc own nL f lo) {j : Nat} {i : Int32} (hi : i = nI j) (hj : j < 5) (hd : decode cc pc = .ok (.iaload, 1)) (hn : pc + 1 = n) (kk : gG X E M n ls (.int (gLe j) :: st) Q) : gG X E M pc ls (.int i :: .ref 134 :: st) Q := by
  obtain ⟨p, e, R, s, m, args, below, meth, c, cells, slots, A⟩ := X
  intro H locs lsr hP hS hL
  subst hn
  have hc : i.toNatClampNeg = j := by rw [hi]; exact nI_clamp (by omega)
  exact va_ti hX.1.1 hX.1.2.1 hX.2.2.2.2.2.1 hS (by rw [hi]; exact vp_in_nI (N := 5) hj (by omega)) (v := .int (gLe j)) (by rw [hc]) hd (kk H locs lsr hP hS hL)
theorem g_great (hX : gOk X E cc own nL f lo) {idx : Nat} (hlink : Cond.fieldLink own idx RX7 "GREATEST_SETTINGS" "[I" ∈ gW) (hd : decode cc pc = .ok (.getstatic idx, 3)) (hn : pc + 3 = n) (kk : gG X E M n ls (.ref 135 :: st) Q) : gG X E M pc ls st Q := by
  obtain ⟨p, e, R, s, m, args, below, meth, c, cells, slots, A⟩ := X
  intro H locs lsr hP hS hL
  subst hn
  exact va_gets hX.1.1 hX.1.2.1 hX.2.2.2.2.2.2.1 hS hX.1.2.2.2.1 (hX.1.2.2.2.2 _ hlink) (fun _ h => h) hd (kk H locs lsr hP hS hL)
theorem g_great_ld (hX : gOk X E cc own nL f lo) {j : Nat} {i : Int32} (hi : i = nI j) (hj : j < 5) (hd : decode cc pc = .ok (.iaload, 1)) (hn : pc + 1 = n) (kk : gG X E M n ls (.int (gGr j) :: st) Q) : gG X E M pc ls (.int i :: .ref 135 :: st) Q := by
  obtain ⟨p, e, R, s, m, args, below, meth, c, cells, slots, A⟩ := X
  intro H locs lsr hP hS hL
  subst hn
  have hc : i.toNatClampNeg = j := by rw [hi]; exact nI_clamp (by omega)
  exact va_ti hX.1.1 hX.1.2.1 hX.2.2.2.2.2.2.2.1 hS (by rw [hi]; exact vp_in_nI (N := 5) hj (by omega)) (v := .int (gGr j)) (by rw [hc]) hd (kk H locs lsr hP hS hL)
theorem g_iret (hX : gOk X E cc own nL f lo) (hR : gRt X E (some .int)) {P : Int32 → gM → Prop} {x : Int32} (hd : decode cc pc = .ok (.ireturn, 1)) (h : P x M) : gG X E M pc ls [.int x] (gQ X E (gInt P)) := by
  obtain ⟨p, e, R, s, m, args, below, meth, c, cells, slots, A⟩ := X
  intro H locs lsr hP hS hL
  obtain ⟨hr, rfl, rfl, rfl⟩ := hR
  exact W.iret hX.1.1 hX.1.2.1 hr (fun t ht hW => ⟨⟨some x, M, rfl, ⟨x, rfl, h⟩, by rw [ht]; exact hP⟩, hS.F ht⟩) hS.2.2 hd hX.2.1
theorem g_zret (hX : gOk X E cc own nL f lo) (hR : gRt X E (some .boolean)) {P : Int32 → gM → Prop} {x : Int32} (hx : x = 0 ∨ x = 1) (hd : decode cc pc = .ok (.ireturn, 1)) (h : P x M) : gG X E M pc ls [.int x] (gQ X E (gInt P)) := by
  obtain ⟨p, e, R, s, m, args, below, meth, c, cells, slots, A⟩ := X
  intro H locs lsr hP hS hL
  obtain ⟨hr, rfl, rfl, rfl⟩ := hR
  exact W.zret hX.1.1 hX.1.2.1 hr (by rcases hx with rfl | rfl <;> rfl) (fun t ht hW => ⟨⟨some x, M, rfl, ⟨x, rfl, h⟩, by rw [ht]; exact hP⟩, hS.F ht⟩) hS.2.2 hd hX.2.1
theorem g_cret (hX : gOk X E cc own nL f lo) (hR : gRt X E (some .char)) {P : Int32 → gM → Prop} {x : Int32} (hx : narrow .char (.int x) = .int x) (hd : decode cc pc = .ok (.ireturn, 1)) (h : P x M) : gG X E M pc ls [.int x] (gQ X E (gInt P)) := by
  obtain ⟨p, e, R, s, m, args, below, meth, c, cells, slots, A⟩ := X
  intro H locs lsr hP hS hL
  obtain ⟨hr, rfl, rfl, rfl⟩ := hR
  exact W.zret hX.1.1 hX.1.2.1 hr hx (fun t ht hW => ⟨⟨some x, M, rfl, ⟨x, rfl, h⟩, by rw [ht]; exact hP⟩, hS.F ht⟩) hS.2.2 hd hX.2.1
theorem g_vret (hX : gOk X E cc own nL f lo) (hR : gRt X E none) {P : gM → Prop} (hd : decode cc pc = .ok (.return_, 1)) (h : P M) : gG X E M pc ls [] (gQ X E (gVoid P)) := by
  obtain ⟨p, e, R, s, m, args, below, meth, c, cells, slots, A⟩ := X
  intro H locs lsr hP hS hL
  obtain ⟨hr, rfl, rfl, rfl⟩ := hR
  exact W.vret hX.1.1 hX.1.2.1 hr (fun t ht hW => ⟨⟨none, M, rfl, ⟨rfl, h⟩, by rw [ht]; exact hP⟩, hS.F ht⟩) hS.2.2 hd hX.2.1
def gFact (k : gK) (n : Nat) : Prop := Cond.code k.1 k.2.1 k.2.2.1 k.2.2.2.1 ∈ gW ∧ Cond.initialized k.1.cls ∈ gW ∧ (k.1.cls ≠ "java/lang/invoke/MethodHandle" ∧ k.1.cls ≠ "java/lang/invoke/VarHandle") ∧ (parseMethodDescriptor k.1.desc).map (fun d => d.parameters.length) = some n
def gFactV (k : gK) (n ci : Nat) : Prop := gFact k n ∧ Cond.instanceMethod k.1 ∈ gW ∧ Cond.selects k.1.cls k.1 k.1 ∈ gW ∧ ∃ (T : u_T) (N : Nat), vwCl[ci]? = some (k.1.cls, T, N)
def gFactS (k : gK) (n : Nat) : Prop := gFact k n ∧ Cond.static k.1 ∈ gW
def gRoom (f lo : Nat) (k : gK) : Bool := Nat.ble (k.2.2.2.2.1 + 1) f && Nat.ble (8 + (k.2.2.1 + 11) + k.2.2.2.2.2) lo
theorem gMet.blind {as : List Value} : FrameBlind (gPre E as M) := fun a U g mk ⟨h1, h2, h3⟩ => ⟨h1, h2, h3.blind a g mk⟩
theorem g_cat {l : List Value} (h : l.all (fun v => v.category == 1) = true) : (((l.map (gtr E.2.1)).map fun v => v.category).sum) = l.length := by
  induction l with
  | nil => rfl
  | cons v l ih =>
    simp only [List.all_cons, Bool.and_eq_true, beq_iff_eq] at h
    show (gtr E.2.1 v).category + ((l.map (gtr E.2.1)).map fun v => v.category).sum = l.length + 1
    rw [gtr_cat, h.1, ih h.2]
    omega
theorem g_callB {k : gK} {n : Nat} {p : Program} {m : MethodId} {c : Code} {s : State} {args : Array Value} {R : Room} {idx : Nat} (S : CallFix p m c cc nL s args gW own) (hR : R.frames = f ∧ R.locals = lo) (hF : gFact k n) (hr : gRoom f lo k = true) (hlink : Cond.methodLink own idx k.1 ∈ gW) :
    CallB R s args own idx k.1 k.2.1 k.2.2.1 k.2.2.2.1 (gC k.1 k.2.1 k.2.2.1 k.2.2.2.1) { frames := k.2.2.2.2.1, cells := 0, slots := 0, locals := k.2.2.2.2.2 } 0 0 n := by
  obtain ⟨h1, h2, h3, h4⟩ := hF
  simp only [gRoom, Bool.and_eq_true] at hr
  refine ⟨rfl, rfl, ?_, ?_, pay_in S.2.2.2.2 (gC_goodW h1), List.mem_cons_self, S.2.2.2.2 _ h1, S.2.2.2.2 _ h2, h3, fun sig h => ?_, S.2.2.2.2 _ hlink⟩
  · rw [hR.1]; exact Nat.le_of_ble_eq_true hr.1
  · rw [hR.2]; exact Nat.le_of_ble_eq_true hr.2
  · rw [h] at h4
    simpa using h4.symm
theorem g_run {p : Program} {e : Env} {R : Room} {s : State} {m : MethodId} {args : Array Value} {below : List Frame} {meth : Method} {c : Code} {cells slots : Nat} {A : Nat → Prop} {H : Heap} {locs : List Loc} {lsr : Array Slot} {st0 rest : List Value} {a : Array Value} {post : Option Int32 → gM → Prop} {l : Launch}
    (hr : va_Run p l e R s m args below meth c H locs cells slots 0 0 (F0 m pc lsr st0) rest (gPost E post a) (gA E)) (hS : va_S A s.heap H locs) (hA : ∀ q, gA E q → A q)
    (kk : ∀ (r : Option Int32) (M' : gM) (H1 : Heap) (locs1 : List Loc), post r M' → va_P E.2.2.1 vwCl (gws E M') H1 → va_S A s.heap H1 locs1 → W p l e R s m args below meth c H1 locs1 cells slots Q (F0 m (pc + 3) lsr ((r.map Value.int).toList ++ rest))) : W p l e R s m args below meth c H locs cells slots Q (F0 m pc lsr st0) := by
  intro T hT X
  obtain ⟨v, st₀, t, T', L, h0, X', hL, e1, e2, ⟨⟨r, M', hv, hp, hb⟩, hz, hk⟩, st⟩ := hr T hT X
  cases hv
  rw [h0] at hz hk
  obtain ⟨t2, a1, b1⟩ := kk r M' T'.heap (locs ++ L) hp (by rw [e1]; exact hb)
    ⟨Nat.le_trans hS.1 (by rw [e1]; exact hz), fun q h1 h2 => by rw [e1, hk q (Nat.lt_of_lt_of_le h1 hS.1) (fun z => h2 (hA q z))]; exact hS.2.1 q h1 h2, fun q hq => by
      rcases List.mem_append.mp hq with h | h
      · exact hS.2.2 q h
      · exact hA _ (hL q h)⟩ T' rfl X'
  exact ⟨t2, st t2 a1, b1⟩
theorem g_callV0 (hX : gOk X E cc own nL f lo) {k : gK} {np ci b idx : Nat} {As rest : List Value} {fs : List (Option Nat)} {post : Option Int32 → gM → Prop} (hM : gMet E k (.ref b :: As) M post) (hF : gFactV k np ci) (hr : gRoom f lo k = true) (hlink : Cond.methodLink own idx k.1 ∈ gW) (hs : shp[b]? = some (0, ci, fs)) (hAs : As.length = np) (hst : st = As.reverse ++ .ref b :: rest) (hrest : (rest.all (fun v => v.category == 1) && Nat.ble rest.length 8) = true) (hlen : ls.length = nL) (hd : decode cc pc = .ok (.invokevirtual idx, 3)) (hn : pc + 3 = n)
    (kk : ∀ (r : Option Int32) (M' : gM), post r M' → gG X E M' n ls ((r.map Value.int).toList ++ rest) Q) : gG X E M pc ls st Q := by
  obtain ⟨p, e, R, s, m, args, below, meth, c, cells, slots, A⟩ := X
  intro H locs lsr hP hS hL
  subst hn; subst hst
  obtain ⟨hF0, hi, hse, T, N, hcl⟩ := hF
  simp only [Bool.and_eq_true] at hrest
  have hAA : ∀ q, gA E q → A q := fun q ⟨a, ha, e⟩ => e ▸ hX.2.2.2.2.2.2.2.2.2.2 a ha
  have hrun := va_runV (p := p) (l := E.1) (e := e) (below := below) (meth := meth) (H := H) (locs := locs) (cells := cells) (slots := slots) (C := k.1.cls) (b := E.2.1 b) (As := As.map (gtr E.2.1)) (rest := rest.map (gtr E.2.1)) (g := F0 m pc lsr ((As.reverse ++ .ref b :: rest).map (gtr E.2.1))) hX.1 hM ⟨g_callB hX.1 ⟨hX.2.2.1.1, hX.2.2.1.2.1⟩ hF0 hr hlink, hX.1.2.2.2.2 _ hi, hX.1.2.2.2.2 _ hse⟩
    ⟨gMet.blind, va_recv hX.2.2.2.1 hP hcl (gws_get hs), fun U hU hW => ⟨rfl, by rw [hU]; exact hP, hX.2.2.2.call (locs := locs) (by rw [hU]; exact hS) hW⟩⟩ rfl (by rw [List.length_map]; exact hAs) (by show lsr.size = nL; rw [hL.1, hlen]) (by simp [List.map_reverse, gtr]) (lv_room (by rw [g_cat hrest.1]; exact Nat.le_of_ble_eq_true hrest.2)) hd ⟨hX.2.2.1.2.2.1, hX.2.2.1.2.2.2⟩
  refine g_run hrun hS hAA (fun r M' H1 locs1 hp hP1 hS1 => ?_)
  have h := kk r M' hp H1 locs1 lsr hP1 hS1 hL
  have e : ((r.map Value.int).toList ++ rest).map (gtr E.2.1) = (r.map Value.int).toList ++ rest.map (gtr E.2.1) := by cases r <;> simp [gtr]
  rw [e] at h
  exact h
theorem g_callS0 (hX : gOk X E cc own nL f lo) {k : gK} {np idx : Nat} {As rest : List Value} {post : Option Int32 → gM → Prop} (hM : gMet E k As M post) (hF : gFactS k np) (hr : gRoom f lo k = true) (hlink : Cond.methodLink own idx k.1 ∈ gW) (hAs : As.length = np) (hst : st = As.reverse ++ rest) (hrest : (rest.all (fun v => v.category == 1) && Nat.ble rest.length 8) = true) (hlen : ls.length = nL) (hd : decode cc pc = .ok (.invokestatic idx, 3)) (hn : pc + 3 = n)
    (kk : ∀ (r : Option Int32) (M' : gM), post r M' → gG X E M' n ls ((r.map Value.int).toList ++ rest) Q) : gG X E M pc ls st Q := by
  obtain ⟨p, e, R, s, m, args, below, meth, c, cells, slots, A⟩ := X
  intro H locs lsr hP hS hL
  subst hn; subst hst
  obtain ⟨hF0, hi⟩ := hF
  simp only [Bool.and_eq_true] at hrest
  have hAA : ∀ q, gA E q → A q := fun q ⟨a, ha, e⟩ => e ▸ hX.2.2.2.2.2.2.2.2.2.2 a ha
  have hrun := va_runS (p := p) (l := E.1) (e := e) (below := below) (meth := meth) (H := H) (locs := locs) (cells := cells) (slots := slots) (As := As.map (gtr E.2.1)) (rest := rest.map (gtr E.2.1)) (g := F0 m pc lsr ((As.reverse ++ rest).map (gtr E.2.1))) hX.1 hM ⟨g_callB hX.1 ⟨hX.2.2.1.1, hX.2.2.1.2.1⟩ hF0 hr hlink, hX.1.2.2.2.2 _ hi⟩
    ⟨gMet.blind, fun U hU hW => ⟨rfl, by rw [hU]; exact hP, hX.2.2.2.call (locs := locs) (by rw [hU]; exact hS) hW⟩⟩ rfl (by rw [List.length_map]; exact hAs) (by show lsr.size = nL; rw [hL.1, hlen]) (by simp [List.map_reverse]) (lv_room (by rw [g_cat hrest.1]; exact Nat.le_of_ble_eq_true hrest.2)) hd ⟨hX.2.2.1.2.2.1, hX.2.2.1.2.2.2⟩
  refine g_run hrun hS hAA (fun r M' H1 locs1 hp hP1 hS1 => ?_)
  have h := kk r M' hp H1 locs1 lsr hP1 hS1 hL
  have e : ((r.map Value.int).toList ++ rest).map (gtr E.2.1) = (r.map Value.int).toList ++ rest.map (gtr E.2.1) := by cases r <;> simp [gtr]
  rw [e] at h
  exact h
theorem g_callN0 (hX : gOk X E cc own nL f lo) {k : gK} {np idx : Nat} {host : String} {As rest : List Value} {post : Option Int32 → gM → Prop} (hM : gMet E k As M post) (hF : gFactS k np) (hr : gRoom f lo k = true) (hlink : Cond.methodLinkNest own idx k.1 host ∈ gNest) (hAs : As.length = np) (hst : st = As.reverse ++ rest) (hrest : (rest.all (fun v => v.category == 1) && Nat.ble rest.length 8) = true) (hlen : ls.length = nL) (hd : decode cc pc = .ok (.invokestatic idx, 3)) (hn : pc + 3 = n)
    (kk : ∀ (r : Option Int32) (M' : gM), post r M' → gG X E M' n ls ((r.map Value.int).toList ++ rest) Q) : gG X E M pc ls st Q := by
  obtain ⟨p, e, R, s, m, args, below, meth, c, cells, slots, A⟩ := X
  intro H locs lsr hP hS hL
  subst hn; subst hst
  obtain ⟨⟨h1, h2, h3, h4⟩, hi⟩ := hF
  simp only [Bool.and_eq_true, gRoom] at hrest hr
  have hAA : ∀ q, gA E q → A q := fun q ⟨a, ha, e⟩ => e ▸ hX.2.2.2.2.2.2.2.2.2.2 a ha
  have hrun := va_runSN (p := p) (l := E.1) (e := e) (below := below) (meth := meth) (H := H) (locs := locs) (cells := cells) (slots := slots) (As := As.map (gtr E.2.1)) (rest := rest.map (gtr E.2.1)) (g := F0 m pc lsr ((As.reverse ++ rest).map (gtr E.2.1))) hX.1 hM ⟨va_cnB np hX.1.2.2.2.2 (gC_goodW h1) rfl rfl rfl (hX.2.2.2.2.2.2.2.2.1 _ hlink) (hX.1.2.2.2.2 _ h2) ⟨h3.1, h3.2, h4⟩ ⟨by rw [hX.2.2.1.1]; exact Nat.le_of_ble_eq_true hr.1, by rw [hX.2.2.1.2.1]; exact Nat.le_of_ble_eq_true hr.2⟩, hX.1.2.2.2.2 _ hi, trivial⟩
    ⟨gMet.blind, fun U hU hW => ⟨rfl, by rw [hU]; exact hP, hX.2.2.2.call (locs := locs) (by rw [hU]; exact hS) hW⟩⟩ rfl (by rw [List.length_map]; exact hAs) (by show lsr.size = nL; rw [hL.1, hlen]) (by simp [List.map_reverse]) (lv_room (by rw [g_cat hrest.1]; exact Nat.le_of_ble_eq_true hrest.2)) hd ⟨hX.2.2.1.2.2.1, hX.2.2.1.2.2.2⟩
  refine g_run hrun hS hAA (fun r M' H1 locs1 hp hP1 hS1 => ?_)
  have h := kk r M' hp H1 locs1 lsr hP1 hS1 hL
  have e : ((r.map Value.int).toList ++ rest).map (gtr E.2.1) = (r.map Value.int).toList ++ rest.map (gtr E.2.1) := by cases r <;> simp [gtr]
  rw [e] at h
  exact h
theorem g_callVi (hX : gOk X E cc own nL f lo) {k : gK} {np idx : Nat} {ci b : Nat} {fs : List (Option Nat)} {As rest : List Value} {P : Int32 → gM → Prop} (hM : gMet E k (.ref b :: As) M (gInt P)) (hF : gFactV k np ci) (hr : gRoom f lo k = true) (hlink : Cond.methodLink own idx k.1 ∈ gW) (hs : shp[b]? = some (0, ci, fs)) (hAs : As.length = np) (hst : st = As.reverse ++ .ref b :: rest) (hrest : (rest.all (fun v => v.category == 1) && Nat.ble rest.length 8) = true) (hlen : ls.length = nL) (hd : decode cc pc = .ok (.invokevirtual idx, 3)) (hn : pc + 3 = n) (kk : ∀ (x : Int32) (M' : gM), P x M' → gG X E M' n ls (.int x :: rest) Q) : gG X E M pc ls st Q :=
  g_callV0 hX hM hF hr hlink hs hAs hst hrest hlen hd hn (fun r M' ⟨x, e, h⟩ => by subst e; exact kk x M' h)
theorem g_callVv (hX : gOk X E cc own nL f lo) {k : gK} {np idx : Nat} {ci b : Nat} {fs : List (Option Nat)} {As rest : List Value} {P : gM → Prop} (hM : gMet E k (.ref b :: As) M (gVoid P)) (hF : gFactV k np ci) (hr : gRoom f lo k = true) (hlink : Cond.methodLink own idx k.1 ∈ gW) (hs : shp[b]? = some (0, ci, fs)) (hAs : As.length = np) (hst : st = As.reverse ++ .ref b :: rest) (hrest : (rest.all (fun v => v.category == 1) && Nat.ble rest.length 8) = true) (hlen : ls.length = nL) (hd : decode cc pc = .ok (.invokevirtual idx, 3)) (hn : pc + 3 = n) (kk : ∀ (M' : gM), P M' → gG X E M' n ls rest Q) : gG X E M pc ls st Q :=
  g_callV0 hX hM hF hr hlink hs hAs hst hrest hlen hd hn (fun r M' ⟨e, h⟩ => by subst e; exact kk M' h)
theorem g_callSi (hX : gOk X E cc own nL f lo) {k : gK} {np idx : Nat} {As rest : List Value} {P : Int32 → gM → Prop} (hM : gMet E k As M (gInt P)) (hF : gFactS k np) (hr : gRoom f lo k = true) (hlink : Cond.methodLink own idx k.1 ∈ gW) (hAs : As.length = np) (hst : st = As.reverse ++ rest) (hrest : (rest.all (fun v => v.category == 1) && Nat.ble rest.length 8) = true) (hlen : ls.length = nL) (hd : decode cc pc = .ok (.invokestatic idx, 3)) (hn : pc + 3 = n) (kk : ∀ (x : Int32) (M' : gM), P x M' → gG X E M' n ls (.int x :: rest) Q) : gG X E M pc ls st Q :=
  g_callS0 hX hM hF hr hlink hAs hst hrest hlen hd hn (fun r M' ⟨x, e, h⟩ => by subst e; exact kk x M' h)
theorem g_callSv (hX : gOk X E cc own nL f lo) {k : gK} {np idx : Nat} {As rest : List Value} {P : gM → Prop} (hM : gMet E k As M (gVoid P)) (hF : gFactS k np) (hr : gRoom f lo k = true) (hlink : Cond.methodLink own idx k.1 ∈ gW) (hAs : As.length = np) (hst : st = As.reverse ++ rest) (hrest : (rest.all (fun v => v.category == 1) && Nat.ble rest.length 8) = true) (hlen : ls.length = nL) (hd : decode cc pc = .ok (.invokestatic idx, 3)) (hn : pc + 3 = n) (kk : ∀ (M' : gM), P M' → gG X E M' n ls rest Q) : gG X E M pc ls st Q :=
  g_callS0 hX hM hF hr hlink hAs hst hrest hlen hd hn (fun r M' ⟨e, h⟩ => by subst e; exact kk M' h)
theorem g_callNi (hX : gOk X E cc own nL f lo) {k : gK} {np idx : Nat} {host : String} {As rest : List Value} {P : Int32 → gM → Prop} (hM : gMet E k As M (gInt P)) (hF : gFactS k np) (hr : gRoom f lo k = true) (hlink : Cond.methodLinkNest own idx k.1 host ∈ gNest) (hAs : As.length = np) (hst : st = As.reverse ++ rest) (hrest : (rest.all (fun v => v.category == 1) && Nat.ble rest.length 8) = true) (hlen : ls.length = nL) (hd : decode cc pc = .ok (.invokestatic idx, 3)) (hn : pc + 3 = n) (kk : ∀ (x : Int32) (M' : gM), P x M' → gG X E M' n ls (.int x :: rest) Q) : gG X E M pc ls st Q :=
  g_callN0 hX hM hF hr hlink hAs hst hrest hlen hd hn (fun r M' ⟨x, e, h⟩ => by subst e; exact kk x M' h)
theorem g_callNv (hX : gOk X E cc own nL f lo) {k : gK} {np idx : Nat} {host : String} {As rest : List Value} {P : gM → Prop} (hM : gMet E k As M (gVoid P)) (hF : gFactS k np) (hr : gRoom f lo k = true) (hlink : Cond.methodLinkNest own idx k.1 host ∈ gNest) (hAs : As.length = np) (hst : st = As.reverse ++ rest) (hrest : (rest.all (fun v => v.category == 1) && Nat.ble rest.length 8) = true) (hlen : ls.length = nL) (hd : decode cc pc = .ok (.invokestatic idx, 3)) (hn : pc + 3 = n) (kk : ∀ (M' : gM), P M' → gG X E M' n ls rest Q) : gG X E M pc ls st Q :=
  g_callN0 hX hM hF hr hlink hAs hst hrest hlen hd hn (fun r M' ⟨e, h⟩ => by subst e; exact kk M' h)
end
