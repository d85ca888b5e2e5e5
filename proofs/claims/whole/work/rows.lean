section
-- ===== PART A: goes FIRST, ahead of the names: the tables' words, and 'selects' of the private methods out of them =====
/-- a private method of a class that the tables say can be made, by its rows of tables_1 -/
def lw_okq (q : MethodName × Nat) : Prop := (q.1.cls ≠ "java/lang/invoke/MethodHandle" ∧ q.1.cls ≠ "java/lang/invoke/VarHandle") ∧ Cond.instantiable q.1.cls q.2 ∈ tables_1 ∧ Cond.privateMethod q.1 ∈ tables_1 ∧ Cond.instanceMethod q.1 ∈ tables_1
theorem lw_p0 : lw_okq (⟨"FoldedProfiles", "takeOverTrial", "()V"⟩, 6) := ⟨⟨by decide +kernel, by decide +kernel⟩, List.mem_of_getElem? (i := 12) (by decide +kernel), List.mem_of_getElem? (i := 359) (by decide +kernel), List.mem_of_getElem? (i := 360) (by decide +kernel)⟩
theorem lw_p1 : lw_okq (⟨"FoldedProfilesModel", "records", "(I)V"⟩, 7) := ⟨⟨by decide +kernel, by decide +kernel⟩, List.mem_of_getElem? (i := 573) (by decide +kernel), List.mem_of_getElem? (i := 608) (by decide +kernel), List.mem_of_getElem? (i := 609) (by decide +kernel)⟩
theorem lw_p2 : lw_okq (⟨"FoldedProfilesModel", "copies", "(II)V"⟩, 7) := ⟨⟨by decide +kernel, by decide +kernel⟩, List.mem_of_getElem? (i := 573) (by decide +kernel), List.mem_of_getElem? (i := 612) (by decide +kernel), List.mem_of_getElem? (i := 613) (by decide +kernel)⟩
theorem lw_p3 : lw_okq (⟨"FoldedProfilesModel", "adds", "(II)V"⟩, 7) := ⟨⟨by decide +kernel, by decide +kernel⟩, List.mem_of_getElem? (i := 573) (by decide +kernel), List.mem_of_getElem? (i := 616) (by decide +kernel), List.mem_of_getElem? (i := 617) (by decide +kernel)⟩
theorem lw_p4 : lw_okq (⟨"FoldedProfilesModel", "isStrip", "(I)Z"⟩, 7) := ⟨⟨by decide +kernel, by decide +kernel⟩, List.mem_of_getElem? (i := 573) (by decide +kernel), List.mem_of_getElem? (i := 627) (by decide +kernel), List.mem_of_getElem? (i := 628) (by decide +kernel)⟩
theorem lw_p5 : lw_okq (⟨"FoldedProfilesModel", "isProfile", "(I)Z"⟩, 7) := ⟨⟨by decide +kernel, by decide +kernel⟩, List.mem_of_getElem? (i := 573) (by decide +kernel), List.mem_of_getElem? (i := 639) (by decide +kernel), List.mem_of_getElem? (i := 640) (by decide +kernel)⟩
theorem lw_p6 : lw_okq (⟨"FoldedProfilesModel", "sits", "(IIII)V"⟩, 7) := ⟨⟨by decide +kernel, by decide +kernel⟩, List.mem_of_getElem? (i := 573) (by decide +kernel), List.mem_of_getElem? (i := 650) (by decide +kernel), List.mem_of_getElem? (i := 651) (by decide +kernel)⟩
theorem lw_p7 : lw_okq (⟨"FoldedProfilesModel", "fault", "()I"⟩, 7) := ⟨⟨by decide +kernel, by decide +kernel⟩, List.mem_of_getElem? (i := 573) (by decide +kernel), List.mem_of_getElem? (i := 661) (by decide +kernel), List.mem_of_getElem? (i := 662) (by decide +kernel)⟩
theorem lw_p8 : lw_okq (⟨"FoldedProfilesModel", "reads", "()Z"⟩, 7) := ⟨⟨by decide +kernel, by decide +kernel⟩, List.mem_of_getElem? (i := 573) (by decide +kernel), List.mem_of_getElem? (i := 665) (by decide +kernel), List.mem_of_getElem? (i := 666) (by decide +kernel)⟩
theorem lw_p9 : lw_okq (⟨"FoldedProfilesModel", "isDigit", "(C)Z"⟩, 7) := ⟨⟨by decide +kernel, by decide +kernel⟩, List.mem_of_getElem? (i := 573) (by decide +kernel), List.mem_of_getElem? (i := 669) (by decide +kernel), List.mem_of_getElem? (i := 670) (by decide +kernel)⟩
theorem lw_p10 : lw_okq (⟨"FoldedProfilesModel", "kept", "(I)I"⟩, 7) := ⟨⟨by decide +kernel, by decide +kernel⟩, List.mem_of_getElem? (i := 573) (by decide +kernel), List.mem_of_getElem? (i := 673) (by decide +kernel), List.mem_of_getElem? (i := 674) (by decide +kernel)⟩
theorem lw_p11 : lw_okq (⟨"FoldedProfilesModel", "becomes", "()V"⟩, 7) := ⟨⟨by decide +kernel, by decide +kernel⟩, List.mem_of_getElem? (i := 573) (by decide +kernel), List.mem_of_getElem? (i := 677) (by decide +kernel), List.mem_of_getElem? (i := 678) (by decide +kernel)⟩
theorem lw_p12 : lw_okq (⟨"FoldedProfilesModel", "isSitter", "(I)Z"⟩, 7) := ⟨⟨by decide +kernel, by decide +kernel⟩, List.mem_of_getElem? (i := 573) (by decide +kernel), List.mem_of_getElem? (i := 685) (by decide +kernel), List.mem_of_getElem? (i := 686) (by decide +kernel)⟩
theorem lw_p13 : lw_okq (⟨"FoldedProfilesModel", "serves", "(II)Z"⟩, 7) := ⟨⟨by decide +kernel, by decide +kernel⟩, List.mem_of_getElem? (i := 573) (by decide +kernel), List.mem_of_getElem? (i := 689) (by decide +kernel), List.mem_of_getElem? (i := 690) (by decide +kernel)⟩
theorem lw_p14 : lw_okq (⟨"FoldedProfilesModel", "servedBy", "(II)I"⟩, 7) := ⟨⟨by decide +kernel, by decide +kernel⟩, List.mem_of_getElem? (i := 573) (by decide +kernel), List.mem_of_getElem? (i := 693) (by decide +kernel), List.mem_of_getElem? (i := 694) (by decide +kernel)⟩
theorem lw_p15 : lw_okq (⟨"FoldedProfilesModel", "areAlike", "(III)Z"⟩, 7) := ⟨⟨by decide +kernel, by decide +kernel⟩, List.mem_of_getElem? (i := 573) (by decide +kernel), List.mem_of_getElem? (i := 697) (by decide +kernel), List.mem_of_getElem? (i := 698) (by decide +kernel)⟩
def lw_privs_1 : List (MethodName × Nat) := [(⟨"FoldedProfiles", "takeOverTrial", "()V"⟩, 6), (⟨"FoldedProfilesModel", "records", "(I)V"⟩, 7), (⟨"FoldedProfilesModel", "copies", "(II)V"⟩, 7), (⟨"FoldedProfilesModel", "adds", "(II)V"⟩, 7), (⟨"FoldedProfilesModel", "isStrip", "(I)Z"⟩, 7), (⟨"FoldedProfilesModel", "isProfile", "(I)Z"⟩, 7), (⟨"FoldedProfilesModel", "sits", "(IIII)V"⟩, 7), (⟨"FoldedProfilesModel", "fault", "()I"⟩, 7), (⟨"FoldedProfilesModel", "reads", "()Z"⟩, 7), (⟨"FoldedProfilesModel", "isDigit", "(C)Z"⟩, 7), (⟨"FoldedProfilesModel", "kept", "(I)I"⟩, 7), (⟨"FoldedProfilesModel", "becomes", "()V"⟩, 7), (⟨"FoldedProfilesModel", "isSitter", "(I)Z"⟩, 7), (⟨"FoldedProfilesModel", "serves", "(II)Z"⟩, 7), (⟨"FoldedProfilesModel", "servedBy", "(II)I"⟩, 7), (⟨"FoldedProfilesModel", "areAlike", "(III)Z"⟩, 7)]
theorem lw_r1 : ∀ q ∈ lw_privs_1, lw_okq q := List.forall_mem_cons.mpr ⟨lw_p0, List.forall_mem_cons.mpr ⟨lw_p1, List.forall_mem_cons.mpr ⟨lw_p2, List.forall_mem_cons.mpr ⟨lw_p3, List.forall_mem_cons.mpr ⟨lw_p4, List.forall_mem_cons.mpr ⟨lw_p5, List.forall_mem_cons.mpr ⟨lw_p6, List.forall_mem_cons.mpr ⟨lw_p7, List.forall_mem_cons.mpr ⟨lw_p8, List.forall_mem_cons.mpr ⟨lw_p9, List.forall_mem_cons.mpr ⟨lw_p10, List.forall_mem_cons.mpr ⟨lw_p11, List.forall_mem_cons.mpr ⟨lw_p12, List.forall_mem_cons.mpr ⟨lw_p13, List.forall_mem_cons.mpr ⟨lw_p14, List.forall_mem_cons.mpr ⟨lw_p15, fun _ h => absurd h List.not_mem_nil⟩⟩⟩⟩⟩⟩⟩⟩⟩⟩⟩⟩⟩⟩⟩⟩
theorem lw_p16 : lw_okq (⟨"FoldedProfilesModel", "leaves", "(II)V"⟩, 7) := ⟨⟨by decide +kernel, by decide +kernel⟩, List.mem_of_getElem? (i := 573) (by decide +kernel), List.mem_of_getElem? (i := 701) (by decide +kernel), List.mem_of_getElem? (i := 702) (by decide +kernel)⟩
theorem lw_p17 : lw_okq (⟨"FoldedProfilesModel", "servesAll", "(I)I"⟩, 7) := ⟨⟨by decide +kernel, by decide +kernel⟩, List.mem_of_getElem? (i := 573) (by decide +kernel), List.mem_of_getElem? (i := 709) (by decide +kernel), List.mem_of_getElem? (i := 710) (by decide +kernel)⟩
theorem lw_p18 : lw_okq (⟨"FoldedProfilesModel", "why", "(III)I"⟩, 7) := ⟨⟨by decide +kernel, by decide +kernel⟩, List.mem_of_getElem? (i := 573) (by decide +kernel), List.mem_of_getElem? (i := 717) (by decide +kernel), List.mem_of_getElem? (i := 718) (by decide +kernel)⟩
theorem lw_p19 : lw_okq (⟨"FoldedProfilesModel", "taken", "(II)I"⟩, 7) := ⟨⟨by decide +kernel, by decide +kernel⟩, List.mem_of_getElem? (i := 573) (by decide +kernel), List.mem_of_getElem? (i := 721) (by decide +kernel), List.mem_of_getElem? (i := 722) (by decide +kernel)⟩
theorem lw_p20 : lw_okq (⟨"FoldedProfilesModel", "greatest", "(I)I"⟩, 7) := ⟨⟨by decide +kernel, by decide +kernel⟩, List.mem_of_getElem? (i := 573) (by decide +kernel), List.mem_of_getElem? (i := 725) (by decide +kernel), List.mem_of_getElem? (i := 726) (by decide +kernel)⟩
theorem lw_p21 : lw_okq (⟨"FoldedProfilesModel", "cuts", "(IIII)I"⟩, 7) := ⟨⟨by decide +kernel, by decide +kernel⟩, List.mem_of_getElem? (i := 573) (by decide +kernel), List.mem_of_getElem? (i := 729) (by decide +kernel), List.mem_of_getElem? (i := 730) (by decide +kernel)⟩
theorem lw_p22 : lw_okq (⟨"FoldedProfilesModel", "ticks", "(II)I"⟩, 7) := ⟨⟨by decide +kernel, by decide +kernel⟩, List.mem_of_getElem? (i := 573) (by decide +kernel), List.mem_of_getElem? (i := 733) (by decide +kernel), List.mem_of_getElem? (i := 734) (by decide +kernel)⟩
theorem lw_p23 : lw_okq (⟨"FoldedProfilesModel", "sum", "(III)I"⟩, 7) := ⟨⟨by decide +kernel, by decide +kernel⟩, List.mem_of_getElem? (i := 573) (by decide +kernel), List.mem_of_getElem? (i := 773) (by decide +kernel), List.mem_of_getElem? (i := 774) (by decide +kernel)⟩
theorem lw_p24 : lw_okq (⟨"FoldedProfilesModel", "wanting", "(II)I"⟩, 7) := ⟨⟨by decide +kernel, by decide +kernel⟩, List.mem_of_getElem? (i := 573) (by decide +kernel), List.mem_of_getElem? (i := 777) (by decide +kernel), List.mem_of_getElem? (i := 778) (by decide +kernel)⟩
theorem lw_p25 : lw_okq (⟨"FoldedProfilesModel", "lowestAlike", "(I)I"⟩, 7) := ⟨⟨by decide +kernel, by decide +kernel⟩, List.mem_of_getElem? (i := 573) (by decide +kernel), List.mem_of_getElem? (i := 781) (by decide +kernel), List.mem_of_getElem? (i := 782) (by decide +kernel)⟩
theorem lw_p26 : lw_okq (⟨"FoldedProfilesModel", "mostFolds", "(I)I"⟩, 7) := ⟨⟨by decide +kernel, by decide +kernel⟩, List.mem_of_getElem? (i := 573) (by decide +kernel), List.mem_of_getElem? (i := 793) (by decide +kernel), List.mem_of_getElem? (i := 794) (by decide +kernel)⟩
theorem lw_p27 : lw_okq (⟨"FoldedProfilesModel", "wouldCut", "(IIII)I"⟩, 7) := ⟨⟨by decide +kernel, by decide +kernel⟩, List.mem_of_getElem? (i := 573) (by decide +kernel), List.mem_of_getElem? (i := 805) (by decide +kernel), List.mem_of_getElem? (i := 806) (by decide +kernel)⟩
theorem lw_p28 : lw_okq (⟨"FoldedProfilesModel", "stock", "()I"⟩, 7) := ⟨⟨by decide +kernel, by decide +kernel⟩, List.mem_of_getElem? (i := 573) (by decide +kernel), List.mem_of_getElem? (i := 821) (by decide +kernel), List.mem_of_getElem? (i := 822) (by decide +kernel)⟩
def lw_privs_2 : List (MethodName × Nat) := [(⟨"FoldedProfilesModel", "leaves", "(II)V"⟩, 7), (⟨"FoldedProfilesModel", "servesAll", "(I)I"⟩, 7), (⟨"FoldedProfilesModel", "why", "(III)I"⟩, 7), (⟨"FoldedProfilesModel", "taken", "(II)I"⟩, 7), (⟨"FoldedProfilesModel", "greatest", "(I)I"⟩, 7), (⟨"FoldedProfilesModel", "cuts", "(IIII)I"⟩, 7), (⟨"FoldedProfilesModel", "ticks", "(II)I"⟩, 7), (⟨"FoldedProfilesModel", "sum", "(III)I"⟩, 7), (⟨"FoldedProfilesModel", "wanting", "(II)I"⟩, 7), (⟨"FoldedProfilesModel", "lowestAlike", "(I)I"⟩, 7), (⟨"FoldedProfilesModel", "mostFolds", "(I)I"⟩, 7), (⟨"FoldedProfilesModel", "wouldCut", "(IIII)I"⟩, 7), (⟨"FoldedProfilesModel", "stock", "()I"⟩, 7)]
theorem lw_r2 : ∀ q ∈ lw_privs_2, lw_okq q := List.forall_mem_cons.mpr ⟨lw_p16, List.forall_mem_cons.mpr ⟨lw_p17, List.forall_mem_cons.mpr ⟨lw_p18, List.forall_mem_cons.mpr ⟨lw_p19, List.forall_mem_cons.mpr ⟨lw_p20, List.forall_mem_cons.mpr ⟨lw_p21, List.forall_mem_cons.mpr ⟨lw_p22, List.forall_mem_cons.mpr ⟨lw_p23, List.forall_mem_cons.mpr ⟨lw_p24, List.forall_mem_cons.mpr ⟨lw_p25, List.forall_mem_cons.mpr ⟨lw_p26, List.forall_mem_cons.mpr ⟨lw_p27, List.forall_mem_cons.mpr ⟨lw_p28, fun _ h => absurd h List.not_mem_nil⟩⟩⟩⟩⟩⟩⟩⟩⟩⟩⟩⟩⟩
def lw_privs : List (MethodName × Nat) := lw_privs_1 ++ (lw_privs_2)
def lw_tbl : List Cond := k2_sels lw_privs ++ tables_1
theorem lw_privs_ok : ∀ q ∈ lw_privs, lw_okq q := by
  show ∀ q ∈ lw_privs_1 ++ (lw_privs_2), lw_okq q
  exact List.forall_mem_append.mpr ⟨lw_r1, lw_r2⟩

def RX0 : String := "FoldedProfiles$History"
def TX0 : u_T := fun k => match k with
  | 0 => ("FoldedProfiles$History", "states", "[LFoldedProfiles$Stall;", true)
  | 1 => ("FoldedProfiles$History", "oldest", "I", false)
  | _ => ("FoldedProfiles$History", "size", "I", false)
def tyX0 : Nat → FieldType := fun k => match k with
  | 0 => .array (.object "FoldedProfiles$Stall")
  | 1 => .int
  | _ => .int
abbrev wsX00 : List Cond := u_ws RX0 TX0 3
theorem nmX0 : ∀ a, a < 3 → ∀ b, b < 3 → a ≠ b → (TX0 a).2.1 ≠ (TX0 b).2.1 := by decide +kernel
theorem tyX0_ok : ∀ k, k < 3 → parseFieldDescriptor (TX0 k).2.2.1 = some (tyX0 k) := by decide +kernel
abbrev cX0_init : ByteArray := prog_2_method_1_code
def yX0_init : MethodName := ⟨RX0, "<init>", "()V"⟩
abbrev cX0_push : ByteArray := prog_2_method_2_code
def yX0_push : MethodName := ⟨RX0, "push", "(LFoldedProfiles$Stall;)V"⟩
abbrev cX0_popInto : ByteArray := prog_2_method_3_code
def yX0_popInto : MethodName := ⟨RX0, "popInto", "(LFoldedProfiles$Stall;)V"⟩
def RX1 : String := "FoldedProfiles$Line"
def TX1 : u_T := fun k => match k with
  | 0 => ("FoldedProfiles$Line", "profiles", "[I", true)
  | 1 => ("FoldedProfiles$Line", "wants", "[I", true)
  | 2 => ("FoldedProfiles$Line", "patiences", "[I", true)
  | _ => ("FoldedProfiles$Line", "size", "I", false)
def tyX1 : Nat → FieldType := fun k => match k with
  | 0 => .array .int
  | 1 => .array .int
  | 2 => .array .int
  | _ => .int
abbrev wsX10 : List Cond := u_ws RX1 TX1 4
theorem nmX1 : ∀ a, a < 4 → ∀ b, b < 4 → a ≠ b → (TX1 a).2.1 ≠ (TX1 b).2.1 := by decide +kernel
theorem tyX1_ok : ∀ k, k < 4 → parseFieldDescriptor (TX1 k).2.2.1 = some (tyX1 k) := by decide +kernel
abbrev cX1_init : ByteArray := prog_3_method_1_code
def yX1_init : MethodName := ⟨RX1, "<init>", "()V"⟩
abbrev cX1_copyFrom : ByteArray := prog_3_method_2_code
def yX1_copyFrom : MethodName := ⟨RX1, "copyFrom", "(LFoldedProfiles$Line;)V"⟩
abbrev cX1_has : ByteArray := prog_3_method_3_code
def yX1_has : MethodName := ⟨RX1, "has", "(I)Z"⟩
abbrev cX1_isFull : ByteArray := prog_3_method_4_code
def yX1_isFull : MethodName := ⟨RX1, "isFull", "()Z"⟩
abbrev cX1_add : ByteArray := prog_3_method_5_code
def yX1_add : MethodName := ⟨RX1, "add", "(III)I"⟩
abbrev cX1_remove : ByteArray := prog_3_method_6_code
def yX1_remove : MethodName := ⟨RX1, "remove", "(I)V"⟩
abbrev cX1_loseOver : ByteArray := prog_3_method_7_code
def yX1_loseOver : MethodName := ⟨RX1, "loseOver", "(I)I"⟩
abbrev cX1_countOf : ByteArray := prog_3_method_8_code
def yX1_countOf : MethodName := ⟨RX1, "countOf", "(I)I"⟩
abbrev cX1_countOfSide : ByteArray := prog_3_method_9_code
def yX1_countOfSide : MethodName := ⟨RX1, "countOfSide", "(II)I"⟩
def RX2 : String := "FoldedProfiles$Profiles"
def TX2 : u_T := fun k => match k with
  | 0 => ("FoldedProfiles$Profiles", "widths", "[I", true)
  | 1 => ("FoldedProfiles$Profiles", "lefts", "[I", true)
  | 2 => ("FoldedProfiles$Profiles", "rights", "[I", true)
  | 3 => ("FoldedProfiles$Profiles", "cuts", "[I", true)
  | _ => ("FoldedProfiles$Profiles", "size", "I", false)
def tyX2 : Nat → FieldType := fun k => match k with
  | 0 => .array .int
  | 1 => .array .int
  | 2 => .array .int
  | 3 => .array .int
  | _ => .int
abbrev wsX20 : List Cond := u_ws RX2 TX2 5
theorem nmX2 : ∀ a, a < 5 → ∀ b, b < 5 → a ≠ b → (TX2 a).2.1 ≠ (TX2 b).2.1 := by decide +kernel
theorem tyX2_ok : ∀ k, k < 5 → parseFieldDescriptor (TX2 k).2.2.1 = some (tyX2 k) := by decide +kernel
abbrev cX2_init : ByteArray := prog_4_method_1_code
def yX2_init : MethodName := ⟨RX2, "<init>", "()V"⟩
abbrev cX2_copyFrom : ByteArray := prog_4_method_2_code
def yX2_copyFrom : MethodName := ⟨RX2, "copyFrom", "(LFoldedProfiles$Profiles;)V"⟩
abbrev cX2_has : ByteArray := prog_4_method_3_code
def yX2_has : MethodName := ⟨RX2, "has", "(I)Z"⟩
abbrev cX2_isFull : ByteArray := prog_4_method_4_code
def yX2_isFull : MethodName := ⟨RX2, "isFull", "()Z"⟩
abbrev cX2_widthAt : ByteArray := prog_4_method_5_code
def yX2_widthAt : MethodName := ⟨RX2, "widthAt", "(II)I"⟩
abbrev cX2_greatestWidth : ByteArray := prog_4_method_6_code
def yX2_greatestWidth : MethodName := ⟨RX2, "greatestWidth", "(I)I"⟩
abbrev cX2_sumOfWidths : ByteArray := prog_4_method_7_code
def yX2_sumOfWidths : MethodName := ⟨RX2, "sumOfWidths", "(I)I"⟩
abbrev cX2_isAlike : ByteArray := prog_4_method_8_code
def yX2_isAlike : MethodName := ⟨RX2, "isAlike", "(I[II)Z"⟩
abbrev cX2_areAlike : ByteArray := prog_4_method_9_code
def yX2_areAlike : MethodName := ⟨RX2, "areAlike", "(II)Z"⟩
abbrev cX2_lowestAlike : ByteArray := prog_4_method_10_code
def yX2_lowestAlike : MethodName := ⟨RX2, "lowestAlike", "(I)I"⟩
abbrev cX2_numberFor : ByteArray := prog_4_method_11_code
def yX2_numberFor : MethodName := ⟨RX2, "numberFor", "([II)I"⟩
abbrev cX2_add : ByteArray := prog_4_method_12_code
def yX2_add : MethodName := ⟨RX2, "add", "([II)I"⟩
abbrev cX2_addLike : ByteArray := prog_4_method_13_code
def yX2_addLike : MethodName := ⟨RX2, "addLike", "(III)I"⟩
abbrev cX2_hasInStock : ByteArray := prog_4_method_14_code
def yX2_hasInStock : MethodName := ⟨RX2, "hasInStock", "(II)Z"⟩
abbrev cX2_takeFromStock : ByteArray := prog_4_method_15_code
def yX2_takeFromStock : MethodName := ⟨RX2, "takeFromStock", "(II)V"⟩
abbrev cX2_inStock : ByteArray := prog_4_method_16_code
def yX2_inStock : MethodName := ⟨RX2, "inStock", "()I"⟩
abbrev cX2_cutSoFar : ByteArray := prog_4_method_17_code
def yX2_cutSoFar : MethodName := ⟨RX2, "cutSoFar", "()I"⟩
def RX3 : String := "FoldedProfiles$SitterText"
def TX3 : u_T := fun k => match k with
  | 0 => ("FoldedProfiles$SitterText", "signs", "[C", true)
  | 1 => ("FoldedProfiles$SitterText", "length", "I", false)
  | 2 => ("FoldedProfiles$SitterText", "widths", "[I", true)
  | 3 => ("FoldedProfiles$SitterText", "wants", "[I", true)
  | 4 => ("FoldedProfiles$SitterText", "patiences", "[I", true)
  | 5 => ("FoldedProfiles$SitterText", "entries", "I", false)
  | _ => ("FoldedProfiles$SitterText", "at", "I", false)
def tyX3 : Nat → FieldType := fun k => match k with
  | 0 => .array .char
  | 1 => .int
  | 2 => .array .int
  | 3 => .array .int
  | 4 => .array .int
  | 5 => .int
  | _ => .int
abbrev wsX30 : List Cond := u_ws RX3 TX3 7
theorem nmX3 : ∀ a, a < 7 → ∀ b, b < 7 → a ≠ b → (TX3 a).2.1 ≠ (TX3 b).2.1 := by decide +kernel
theorem tyX3_ok : ∀ k, k < 7 → parseFieldDescriptor (TX3 k).2.2.1 = some (tyX3 k) := by decide +kernel
abbrev cX3_init : ByteArray := prog_5_method_1_code
def yX3_init : MethodName := ⟨RX3, "<init>", "()V"⟩
abbrev cX3_read : ByteArray := prog_5_method_2_code
def yX3_read : MethodName := ⟨RX3, "read", "()Z"⟩
abbrev cX3_readWidths : ByteArray := prog_5_method_3_code
def yX3_readWidths : MethodName := ⟨RX3, "readWidths", "(I)Z"⟩
abbrev cX3_readWant : ByteArray := prog_5_method_4_code
def yX3_readWant : MethodName := ⟨RX3, "readWant", "(I)Z"⟩
abbrev cX3_readPatience : ByteArray := prog_5_method_5_code
def yX3_readPatience : MethodName := ⟨RX3, "readPatience", "()I"⟩
abbrev cX3_isDigitFrom : ByteArray := prog_5_method_6_code
def yX3_isDigitFrom : MethodName := ⟨RX3, "isDigitFrom", "(C)Z"⟩
abbrev cX3_readDigit : ByteArray := prog_5_method_7_code
def yX3_readDigit : MethodName := ⟨RX3, "readDigit", "()I"⟩
abbrev cX3_take : ByteArray := prog_5_method_8_code
def yX3_take : MethodName := ⟨RX3, "take", "(C)Z"⟩
def RX4 : String := "FoldedProfiles$Stall"
def TX4 : u_T := fun k => match k with
  | 0 => ("FoldedProfiles$Stall", "profiles", "LFoldedProfiles$Profiles;", true)
  | 1 => ("FoldedProfiles$Stall", "strips", "LFoldedProfiles$Strips;", true)
  | 2 => ("FoldedProfiles$Stall", "line", "LFoldedProfiles$Line;", true)
  | 3 => ("FoldedProfiles$Stall", "settings", "[I", true)
  | 4 => ("FoldedProfiles$Stall", "coins", "I", false)
  | 5 => ("FoldedProfiles$Stall", "clock", "I", false)
  | 6 => ("FoldedProfiles$Stall", "served", "I", false)
  | 7 => ("FoldedProfiles$Stall", "gone", "I", false)
  | _ => ("FoldedProfiles$Stall", "lengthCut", "I", false)
def tyX4 : Nat → FieldType := fun k => match k with
  | 0 => .object "FoldedProfiles$Profiles"
  | 1 => .object "FoldedProfiles$Strips"
  | 2 => .object "FoldedProfiles$Line"
  | 3 => .array .int
  | 4 => .int
  | 5 => .int
  | 6 => .int
  | 7 => .int
  | _ => .int
abbrev wsX40 : List Cond := u_ws RX4 TX4 9
theorem nmX4 : ∀ a, a < 9 → ∀ b, b < 9 → a ≠ b → (TX4 a).2.1 ≠ (TX4 b).2.1 := by decide +kernel
theorem tyX4_ok : ∀ k, k < 9 → parseFieldDescriptor (TX4 k).2.2.1 = some (tyX4 k) := by decide +kernel
abbrev cX4_init : ByteArray := prog_6_method_1_code
def yX4_init : MethodName := ⟨RX4, "<init>", "()V"⟩
abbrev cX4_copyFrom : ByteArray := prog_6_method_2_code
def yX4_copyFrom : MethodName := ⟨RX4, "copyFrom", "(LFoldedProfiles$Stall;)V"⟩
abbrev cX4_isTooThick : ByteArray := prog_6_method_3_code
def yX4_isTooThick : MethodName := ⟨RX4, "isTooThick", "(II)Z"⟩
abbrev cX4_mostFolds : ByteArray := prog_6_method_4_code
def yX4_mostFolds : MethodName := ⟨RX4, "mostFolds", "(I)I"⟩
abbrev cX4_lengthTaken : ByteArray := prog_6_method_5_code
def yX4_lengthTaken : MethodName := ⟨RX4, "lengthTaken", "(II)I"⟩
abbrev cX4_reasonAgainst : ByteArray := prog_6_method_6_code
def yX4_reasonAgainst : MethodName := ⟨RX4, "reasonAgainst", "(III)I"⟩
abbrev cX4_makeCut : ByteArray := prog_6_method_7_code
def yX4_makeCut : MethodName := ⟨RX4, "makeCut", "(III)V"⟩
abbrev cX4_letTimePass : ByteArray := prog_6_method_8_code
def yX4_letTimePass : MethodName := ⟨RX4, "letTimePass", "(I)V"⟩
abbrev cX4_findFor : ByteArray := prog_6_method_9_code
def yX4_findFor : MethodName := ⟨RX4, "findFor", "(I)I"⟩
abbrev cX4_handOver : ByteArray := prog_6_method_10_code
def yX4_handOver : MethodName := ⟨RX4, "handOver", "(II)V"⟩
abbrev cX4_handOverAll : ByteArray := prog_6_method_11_code
def yX4_handOverAll : MethodName := ⟨RX4, "handOverAll", "()I"⟩
def RX5 : String := "FoldedProfiles$Strips"
def TX5 : u_T := fun k => match k with
  | 0 => ("FoldedProfiles$Strips", "lengths", "[I", true)
  | 1 => ("FoldedProfiles$Strips", "thicknesses", "[I", true)
  | _ => ("FoldedProfiles$Strips", "size", "I", false)
def tyX5 : Nat → FieldType := fun k => match k with
  | 0 => .array .int
  | 1 => .array .int
  | _ => .int
abbrev wsX50 : List Cond := u_ws RX5 TX5 3
theorem nmX5 : ∀ a, a < 3 → ∀ b, b < 3 → a ≠ b → (TX5 a).2.1 ≠ (TX5 b).2.1 := by decide +kernel
theorem tyX5_ok : ∀ k, k < 3 → parseFieldDescriptor (TX5 k).2.2.1 = some (tyX5 k) := by decide +kernel
abbrev cX5_init : ByteArray := prog_7_method_1_code
def yX5_init : MethodName := ⟨RX5, "<init>", "()V"⟩
abbrev cX5_copyFrom : ByteArray := prog_7_method_2_code
def yX5_copyFrom : MethodName := ⟨RX5, "copyFrom", "(LFoldedProfiles$Strips;)V"⟩
abbrev cX5_has : ByteArray := prog_7_method_3_code
def yX5_has : MethodName := ⟨RX5, "has", "(I)Z"⟩
abbrev cX5_isFull : ByteArray := prog_7_method_4_code
def yX5_isFull : MethodName := ⟨RX5, "isFull", "()Z"⟩
abbrev cX5_add : ByteArray := prog_7_method_5_code
def yX5_add : MethodName := ⟨RX5, "add", "(II)I"⟩
abbrev cX5_shorten : ByteArray := prog_7_method_6_code
def yX5_shorten : MethodName := ⟨RX5, "shorten", "(II)V"⟩
abbrev cX5_remove : ByteArray := prog_7_method_7_code
def yX5_remove : MethodName := ⟨RX5, "remove", "(I)V"⟩
abbrev cX5_sumOfLengths : ByteArray := prog_7_method_8_code
def yX5_sumOfLengths : MethodName := ⟨RX5, "sumOfLengths", "()I"⟩
def RX6 : String := "FoldedProfiles"
def TX6 : u_T := fun k => match k with
  | 0 => ("FoldedProfiles", "stall", "LFoldedProfiles$Stall;", true)
  | 1 => ("FoldedProfiles", "trial", "LFoldedProfiles$Stall;", true)
  | 2 => ("FoldedProfiles", "snapshot", "LFoldedProfiles$Stall;", true)
  | 3 => ("FoldedProfiles", "snapshotTaken", "Z", false)
  | 4 => ("FoldedProfiles", "history", "LFoldedProfiles$History;", true)
  | _ => ("FoldedProfiles", "text", "LFoldedProfiles$SitterText;", true)
def tyX6 : Nat → FieldType := fun k => match k with
  | 0 => .object "FoldedProfiles$Stall"
  | 1 => .object "FoldedProfiles$Stall"
  | 2 => .object "FoldedProfiles$Stall"
  | 3 => .boolean
  | 4 => .object "FoldedProfiles$History"
  | _ => .object "FoldedProfiles$SitterText"
abbrev wsX60 : List Cond := u_ws RX6 TX6 6
theorem nmX6 : ∀ a, a < 6 → ∀ b, b < 6 → a ≠ b → (TX6 a).2.1 ≠ (TX6 b).2.1 := by decide +kernel
theorem tyX6_ok : ∀ k, k < 6 → parseFieldDescriptor (TX6 k).2.2.1 = some (tyX6 k) := by decide +kernel
abbrev cX6_init : ByteArray := prog_1_method_1_code
def yX6_init : MethodName := ⟨RX6, "<init>", "()V"⟩
abbrev cX6_buy : ByteArray := prog_1_method_2_code
def yX6_buy : MethodName := ⟨RX6, "buy", "(II)I"⟩
abbrev cX6_trade : ByteArray := prog_1_method_3_code
def yX6_trade : MethodName := ⟨RX6, "trade", "(II)I"⟩
abbrev cX6_part : ByteArray := prog_1_method_4_code
def yX6_part : MethodName := ⟨RX6, "part", "(II)I"⟩
abbrev cX6_draw : ByteArray := prog_1_method_5_code
def yX6_draw : MethodName := ⟨RX6, "draw", "(III)I"⟩
abbrev cX6_come : ByteArray := prog_1_method_6_code
def yX6_come : MethodName := ⟨RX6, "come", "(III)I"⟩
abbrev cX6_comeAll : ByteArray := prog_1_method_7_code
def yX6_comeAll : MethodName := ⟨RX6, "comeAll", "()I"⟩
abbrev cX6_serve : ByteArray := prog_1_method_8_code
def yX6_serve : MethodName := ⟨RX6, "serve", "(I)I"⟩
abbrev cX6_serveAll : ByteArray := prog_1_method_9_code
def yX6_serveAll : MethodName := ⟨RX6, "serveAll", "()I"⟩
abbrev cX6_cut : ByteArray := prog_1_method_10_code
def yX6_cut : MethodName := ⟨RX6, "cut", "(III)I"⟩
abbrev cX6_turn : ByteArray := prog_1_method_11_code
def yX6_turn : MethodName := ⟨RX6, "turn", "(IZ)I"⟩
abbrev cX6_set : ByteArray := prog_1_method_12_code
def yX6_set : MethodName := ⟨RX6, "set", "(II)I"⟩
abbrev cX6_type : ByteArray := prog_1_method_13_code
def yX6_type : MethodName := ⟨RX6, "type", "(C)I"⟩
abbrev cX6_clearText : ByteArray := prog_1_method_14_code
def yX6_clearText : MethodName := ⟨RX6, "clearText", "()I"⟩
abbrev cX6_undo : ByteArray := prog_1_method_15_code
def yX6_undo : MethodName := ⟨RX6, "undo", "()I"⟩
abbrev cX6_keep : ByteArray := prog_1_method_16_code
def yX6_keep : MethodName := ⟨RX6, "keep", "()I"⟩
abbrev cX6_restore : ByteArray := prog_1_method_17_code
def yX6_restore : MethodName := ⟨RX6, "restore", "()I"⟩
abbrev cX6_width : ByteArray := prog_1_method_18_code
def yX6_width : MethodName := ⟨RX6, "width", "(II)I"⟩
abbrev cX6_profile : ByteArray := prog_1_method_19_code
def yX6_profile : MethodName := ⟨RX6, "profile", "(II)I"⟩
abbrev cX6_layerWidth : ByteArray := prog_1_method_20_code
def yX6_layerWidth : MethodName := ⟨RX6, "layerWidth", "(III)I"⟩
abbrev cX6_strip : ByteArray := prog_1_method_21_code
def yX6_strip : MethodName := ⟨RX6, "strip", "(II)I"⟩
abbrev cX6_sitter : ByteArray := prog_1_method_22_code
def yX6_sitter : MethodName := ⟨RX6, "sitter", "(II)I"⟩
abbrev cX6_ifCut : ByteArray := prog_1_method_23_code
def yX6_ifCut : MethodName := ⟨RX6, "ifCut", "(IIII)I"⟩
abbrev cX6_bestStrip : ByteArray := prog_1_method_24_code
def yX6_bestStrip : MethodName := ⟨RX6, "bestStrip", "(II)I"⟩
abbrev cX6_fewestFolds : ByteArray := prog_1_method_25_code
def yX6_fewestFolds : MethodName := ⟨RX6, "fewestFolds", "(II)I"⟩
abbrev cX6_count : ByteArray := prog_1_method_26_code
def yX6_count : MethodName := ⟨RX6, "count", "(I)I"⟩
abbrev cX6_takeOverTrial : ByteArray := prog_1_method_27_code
def yX6_takeOverTrial : MethodName := ⟨RX6, "takeOverTrial", "()V"⟩
abbrev cX6_isIn : ByteArray := prog_1_method_28_code
def yX6_isIn : MethodName := ⟨RX6, "isIn", "(III)Z"⟩
abbrev cX6_isStep : ByteArray := prog_1_method_29_code
def yX6_isStep : MethodName := ⟨RX6, "isStep", "(I)Z"⟩
abbrev cX6_areFolds : ByteArray := prog_1_method_30_code
def yX6_areFolds : MethodName := ⟨RX6, "areFolds", "(I)Z"⟩
abbrev cX6_layersOf : ByteArray := prog_1_method_31_code
def yX6_layersOf : MethodName := ⟨RX6, "layersOf", "(I)I"⟩
abbrev cX6_leftLayersOf : ByteArray := prog_1_method_32_code
def yX6_leftLayersOf : MethodName := ⟨RX6, "leftLayersOf", "(I)I"⟩
abbrev cX6_rightLayersOf : ByteArray := prog_1_method_33_code
def yX6_rightLayersOf : MethodName := ⟨RX6, "rightLayersOf", "(I)I"⟩
def RX7 : String := "FoldedProfilesModel"
def TX7 : u_T := fun k => match k with
  | 0 => ("FoldedProfilesModel", "s", "[I", true)
  | 1 => ("FoldedProfilesModel", "states", "I", false)
  | 2 => ("FoldedProfilesModel", "isKept", "Z", false)
  | 3 => ("FoldedProfilesModel", "text", "[C", true)
  | 4 => ("FoldedProfilesModel", "typed", "I", false)
  | 5 => ("FoldedProfilesModel", "at", "I", false)
  | _ => ("FoldedProfilesModel", "read", "[I", true)
def tyX7 : Nat → FieldType := fun k => match k with
  | 0 => .array .int
  | 1 => .int
  | 2 => .boolean
  | 3 => .array .char
  | 4 => .int
  | 5 => .int
  | _ => .array .int
abbrev wsX70 : List Cond := u_ws RX7 TX7 7
theorem nmX7 : ∀ a, a < 7 → ∀ b, b < 7 → a ≠ b → (TX7 a).2.1 ≠ (TX7 b).2.1 := by decide +kernel
theorem tyX7_ok : ∀ k, k < 7 → parseFieldDescriptor (TX7 k).2.2.1 = some (tyX7 k) := by decide +kernel
abbrev cX7_init : ByteArray := prog_9_method_1_code
def yX7_init : MethodName := ⟨RX7, "<init>", "()V"⟩
abbrev cX7_in : ByteArray := prog_9_method_2_code
def yX7_in : MethodName := ⟨RX7, "in", "(III)Z"⟩
abbrev cX7_isProfile : ByteArray := prog_9_method_3_code
def yX7_isProfile : MethodName := ⟨RX7, "isProfile", "(I)Z"⟩
abbrev cX7_isStrip : ByteArray := prog_9_method_4_code
def yX7_isStrip : MethodName := ⟨RX7, "isStrip", "(I)Z"⟩
abbrev cX7_isSitter : ByteArray := prog_9_method_5_code
def yX7_isSitter : MethodName := ⟨RX7, "isSitter", "(I)Z"⟩
abbrev cX7_copies : ByteArray := prog_9_method_6_code
def yX7_copies : MethodName := ⟨RX7, "copies", "(II)V"⟩
abbrev cX7_records : ByteArray := prog_9_method_7_code
def yX7_records : MethodName := ⟨RX7, "records", "(I)V"⟩
abbrev cX7_becomes : ByteArray := prog_9_method_8_code
def yX7_becomes : MethodName := ⟨RX7, "becomes", "()V"⟩
abbrev cX7_profileAt : ByteArray := prog_9_method_9_code
def yX7_profileAt : MethodName := ⟨RX7, "profileAt", "(II)I"⟩
abbrev cX7_stripAt : ByteArray := prog_9_method_10_code
def yX7_stripAt : MethodName := ⟨RX7, "stripAt", "(II)I"⟩
abbrev cX7_sitterAt : ByteArray := prog_9_method_11_code
def yX7_sitterAt : MethodName := ⟨RX7, "sitterAt", "(II)I"⟩
abbrev cX7_areAlike : ByteArray := prog_9_method_12_code
def yX7_areAlike : MethodName := ⟨RX7, "areAlike", "(III)Z"⟩
abbrev cX7_lowestAlike : ByteArray := prog_9_method_13_code
def yX7_lowestAlike : MethodName := ⟨RX7, "lowestAlike", "(I)I"⟩
abbrev cX7_greatest : ByteArray := prog_9_method_14_code
def yX7_greatest : MethodName := ⟨RX7, "greatest", "(I)I"⟩
abbrev cX7_servedBy : ByteArray := prog_9_method_15_code
def yX7_servedBy : MethodName := ⟨RX7, "servedBy", "(II)I"⟩
abbrev cX7_leaves : ByteArray := prog_9_method_16_code
def yX7_leaves : MethodName := ⟨RX7, "leaves", "(II)V"⟩
abbrev cX7_serves : ByteArray := prog_9_method_17_code
def yX7_serves : MethodName := ⟨RX7, "serves", "(II)Z"⟩
abbrev cX7_servesAll : ByteArray := prog_9_method_18_code
def yX7_servesAll : MethodName := ⟨RX7, "servesAll", "(I)I"⟩
abbrev cX7_ticks : ByteArray := prog_9_method_19_code
def yX7_ticks : MethodName := ⟨RX7, "ticks", "(II)I"⟩
abbrev cX7_adds : ByteArray := prog_9_method_20_code
def yX7_adds : MethodName := ⟨RX7, "adds", "(II)V"⟩
abbrev cX7_buy : ByteArray := prog_9_method_21_code
def yX7_buy : MethodName := ⟨RX7, "buy", "(II)I"⟩
abbrev cX7_trade : ByteArray := prog_9_method_22_code
def yX7_trade : MethodName := ⟨RX7, "trade", "(II)I"⟩
abbrev cX7_part : ByteArray := prog_9_method_23_code
def yX7_part : MethodName := ⟨RX7, "part", "(II)I"⟩
abbrev cX7_draw : ByteArray := prog_9_method_24_code
def yX7_draw : MethodName := ⟨RX7, "draw", "(III)I"⟩
abbrev cX7_sits : ByteArray := prog_9_method_25_code
def yX7_sits : MethodName := ⟨RX7, "sits", "(IIII)V"⟩
abbrev cX7_come : ByteArray := prog_9_method_26_code
def yX7_come : MethodName := ⟨RX7, "come", "(III)I"⟩
abbrev cX7_isDigit : ByteArray := prog_9_method_27_code
def yX7_isDigit : MethodName := ⟨RX7, "isDigit", "(C)Z"⟩
abbrev cX7_reads : ByteArray := prog_9_method_28_code
def yX7_reads : MethodName := ⟨RX7, "reads", "()Z"⟩
abbrev cX7_kept : ByteArray := prog_9_method_29_code
def yX7_kept : MethodName := ⟨RX7, "kept", "(I)I"⟩
abbrev cX7_fault : ByteArray := prog_9_method_30_code
def yX7_fault : MethodName := ⟨RX7, "fault", "()I"⟩
abbrev cX7_comeAll : ByteArray := prog_9_method_31_code
def yX7_comeAll : MethodName := ⟨RX7, "comeAll", "()I"⟩
abbrev cX7_serve : ByteArray := prog_9_method_32_code
def yX7_serve : MethodName := ⟨RX7, "serve", "(I)I"⟩
abbrev cX7_serveAll : ByteArray := prog_9_method_33_code
def yX7_serveAll : MethodName := ⟨RX7, "serveAll", "()I"⟩
abbrev cX7_taken : ByteArray := prog_9_method_34_code
def yX7_taken : MethodName := ⟨RX7, "taken", "(II)I"⟩
abbrev cX7_why : ByteArray := prog_9_method_35_code
def yX7_why : MethodName := ⟨RX7, "why", "(III)I"⟩
abbrev cX7_cuts : ByteArray := prog_9_method_36_code
def yX7_cuts : MethodName := ⟨RX7, "cuts", "(IIII)I"⟩
abbrev cX7_cut : ByteArray := prog_9_method_37_code
def yX7_cut : MethodName := ⟨RX7, "cut", "(III)I"⟩
abbrev cX7_turn : ByteArray := prog_9_method_38_code
def yX7_turn : MethodName := ⟨RX7, "turn", "(IZ)I"⟩
abbrev cX7_set : ByteArray := prog_9_method_39_code
def yX7_set : MethodName := ⟨RX7, "set", "(II)I"⟩
abbrev cX7_type : ByteArray := prog_9_method_40_code
def yX7_type : MethodName := ⟨RX7, "type", "(C)I"⟩
abbrev cX7_clearText : ByteArray := prog_9_method_41_code
def yX7_clearText : MethodName := ⟨RX7, "clearText", "()I"⟩
abbrev cX7_undo : ByteArray := prog_9_method_42_code
def yX7_undo : MethodName := ⟨RX7, "undo", "()I"⟩
abbrev cX7_keep : ByteArray := prog_9_method_43_code
def yX7_keep : MethodName := ⟨RX7, "keep", "()I"⟩
abbrev cX7_restore : ByteArray := prog_9_method_44_code
def yX7_restore : MethodName := ⟨RX7, "restore", "()I"⟩
abbrev cX7_width : ByteArray := prog_9_method_45_code
def yX7_width : MethodName := ⟨RX7, "width", "(II)I"⟩
abbrev cX7_sum : ByteArray := prog_9_method_46_code
def yX7_sum : MethodName := ⟨RX7, "sum", "(III)I"⟩
abbrev cX7_wanting : ByteArray := prog_9_method_47_code
def yX7_wanting : MethodName := ⟨RX7, "wanting", "(II)I"⟩
abbrev cX7_profile : ByteArray := prog_9_method_48_code
def yX7_profile : MethodName := ⟨RX7, "profile", "(II)I"⟩
abbrev cX7_layerWidth : ByteArray := prog_9_method_49_code
def yX7_layerWidth : MethodName := ⟨RX7, "layerWidth", "(III)I"⟩
abbrev cX7_mostFolds : ByteArray := prog_9_method_50_code
def yX7_mostFolds : MethodName := ⟨RX7, "mostFolds", "(I)I"⟩
abbrev cX7_strip : ByteArray := prog_9_method_51_code
def yX7_strip : MethodName := ⟨RX7, "strip", "(II)I"⟩
abbrev cX7_sitter : ByteArray := prog_9_method_52_code
def yX7_sitter : MethodName := ⟨RX7, "sitter", "(II)I"⟩
abbrev cX7_wouldCut : ByteArray := prog_9_method_53_code
def yX7_wouldCut : MethodName := ⟨RX7, "wouldCut", "(IIII)I"⟩
abbrev cX7_ifCut : ByteArray := prog_9_method_54_code
def yX7_ifCut : MethodName := ⟨RX7, "ifCut", "(IIII)I"⟩
abbrev cX7_bestStrip : ByteArray := prog_9_method_55_code
def yX7_bestStrip : MethodName := ⟨RX7, "bestStrip", "(II)I"⟩
abbrev cX7_fewestFolds : ByteArray := prog_9_method_56_code
def yX7_fewestFolds : MethodName := ⟨RX7, "fewestFolds", "(II)I"⟩
abbrev cX7_stock : ByteArray := prog_9_method_57_code
def yX7_stock : MethodName := ⟨RX7, "stock", "()I"⟩
abbrev cX7_count : ByteArray := prog_9_method_58_code
def yX7_count : MethodName := ⟨RX7, "count", "(I)I"⟩
def RL : String := "FoldedProfilesLaw"
abbrev cL_law : ByteArray := code
def yL_law : MethodName := ⟨RL, "law", "([I)Z"⟩
abbrev fp_cl : List vw_C := [(RX0, TX0, 3), (RX1, TX1, 4), (RX2, TX2, 5), (RX3, TX3, 7), (RX4, TX4, 9), (RX5, TX5, 3), (RX6, TX6, 6), (RX7, TX7, 7)]
def fp_tb : List Cond := lw_tbl.filter goodWord
theorem fp_in {i : Nat} {w : Cond} (h : lw_tbl[i]? = some w) (g : goodWord w = true) : w ∈ fp_tb := List.mem_filter.mpr ⟨List.mem_of_getElem? h, g⟩
abbrev FpM : Type := Nat × MethodName × ByteArray × Nat × Option FieldType × Bool
/-- the methods: class (8: the law), name, code, locals, what it returns, static -/
def fp_M : List FpM := [
(8, yL_law, cL_law, 4, (some .boolean), true),
(0, yX0_push, cX0_push, 2, none, false),
(0, yX0_popInto, cX0_popInto, 2, none, false),
(1, yX1_copyFrom, cX1_copyFrom, 2, none, false),
(1, yX1_has, cX1_has, 2, (some .boolean), false),
(1, yX1_isFull, cX1_isFull, 1, (some .boolean), false),
(1, yX1_add, cX1_add, 4, (some .int), false),
(1, yX1_remove, cX1_remove, 3, none, false),
(1, yX1_loseOver, cX1_loseOver, 4, (some .int), false),
(1, yX1_countOf, cX1_countOf, 4, (some .int), false),
(1, yX1_countOfSide, cX1_countOfSide, 6, (some .int), false),
(2, yX2_copyFrom, cX2_copyFrom, 2, none, false),
(2, yX2_has, cX2_has, 2, (some .boolean), false),
(2, yX2_isFull, cX2_isFull, 1, (some .boolean), false),
(2, yX2_widthAt, cX2_widthAt, 3, (some .int), false),
(2, yX2_greatestWidth, cX2_greatestWidth, 4, (some .int), false),
(2, yX2_sumOfWidths, cX2_sumOfWidths, 4, (some .int), false),
(2, yX2_isAlike, cX2_isAlike, 5, (some .boolean), false),
(2, yX2_areAlike, cX2_areAlike, 3, (some .boolean), false),
(2, yX2_lowestAlike, cX2_lowestAlike, 3, (some .int), false),
(2, yX2_numberFor, cX2_numberFor, 4, (some .int), false),
(2, yX2_add, cX2_add, 4, (some .int), false),
(2, yX2_addLike, cX2_addLike, 5, (some .int), false),
(2, yX2_hasInStock, cX2_hasInStock, 5, (some .boolean), false),
(2, yX2_takeFromStock, cX2_takeFromStock, 3, none, false),
(2, yX2_inStock, cX2_inStock, 3, (some .int), false),
(2, yX2_cutSoFar, cX2_cutSoFar, 3, (some .int), false),
(3, yX3_read, cX3_read, 2, (some .boolean), false),
(3, yX3_readWidths, cX3_readWidths, 3, (some .boolean), false),
(3, yX3_readWant, cX3_readWant, 2, (some .boolean), false),
(3, yX3_readPatience, cX3_readPatience, 2, (some .int), false),
(3, yX3_isDigitFrom, cX3_isDigitFrom, 2, (some .boolean), false),
(3, yX3_readDigit, cX3_readDigit, 2, (some .int), false),
(3, yX3_take, cX3_take, 2, (some .boolean), false),
(4, yX4_copyFrom, cX4_copyFrom, 2, none, false),
(4, yX4_isTooThick, cX4_isTooThick, 3, (some .boolean), false),
(4, yX4_mostFolds, cX4_mostFolds, 3, (some .int), false),
(4, yX4_lengthTaken, cX4_lengthTaken, 4, (some .int), false),
(4, yX4_reasonAgainst, cX4_reasonAgainst, 4, (some .int), false),
(4, yX4_makeCut, cX4_makeCut, 5, none, false),
(4, yX4_letTimePass, cX4_letTimePass, 2, none, false),
(4, yX4_findFor, cX4_findFor, 5, (some .int), false),
(4, yX4_handOver, cX4_handOver, 4, none, false),
(4, yX4_handOverAll, cX4_handOverAll, 5, (some .int), false),
(5, yX5_copyFrom, cX5_copyFrom, 2, none, false),
(5, yX5_has, cX5_has, 2, (some .boolean), false),
(5, yX5_isFull, cX5_isFull, 1, (some .boolean), false),
(5, yX5_add, cX5_add, 4, (some .int), false),
(5, yX5_shorten, cX5_shorten, 3, none, false),
(5, yX5_remove, cX5_remove, 3, none, false),
(5, yX5_sumOfLengths, cX5_sumOfLengths, 3, (some .int), false),
(6, yX6_buy, cX6_buy, 4, (some .int), false),
(6, yX6_trade, cX6_trade, 4, (some .int), false),
(6, yX6_part, cX6_part, 5, (some .int), false),
(6, yX6_draw, cX6_draw, 5, (some .int), false),
(6, yX6_come, cX6_come, 4, (some .int), false),
(6, yX6_comeAll, cX6_comeAll, 3, (some .int), false),
(6, yX6_serve, cX6_serve, 3, (some .int), false),
(6, yX6_serveAll, cX6_serveAll, 2, (some .int), false),
(6, yX6_cut, cX6_cut, 5, (some .int), false),
(6, yX6_turn, cX6_turn, 6, (some .int), false),
(6, yX6_set, cX6_set, 4, (some .int), false),
(6, yX6_type, cX6_type, 2, (some .int), false),
(6, yX6_clearText, cX6_clearText, 2, (some .int), false),
(6, yX6_undo, cX6_undo, 1, (some .int), false),
(6, yX6_keep, cX6_keep, 1, (some .int), false),
(6, yX6_restore, cX6_restore, 1, (some .int), false),
(6, yX6_width, cX6_width, 3, (some .int), false),
(6, yX6_profile, cX6_profile, 4, (some .int), false),
(6, yX6_layerWidth, cX6_layerWidth, 4, (some .int), false),
(6, yX6_strip, cX6_strip, 3, (some .int), false),
(6, yX6_sitter, cX6_sitter, 4, (some .int), false),
(6, yX6_ifCut, cX6_ifCut, 6, (some .int), false),
(6, yX6_bestStrip, cX6_bestStrip, 7, (some .int), false),
(6, yX6_fewestFolds, cX6_fewestFolds, 9, (some .int), false),
(6, yX6_count, cX6_count, 2, (some .int), false),
(6, yX6_takeOverTrial, cX6_takeOverTrial, 1, none, false),
(6, yX6_isIn, cX6_isIn, 3, (some .boolean), true),
(6, yX6_isStep, cX6_isStep, 1, (some .boolean), true),
(6, yX6_areFolds, cX6_areFolds, 1, (some .boolean), true),
(6, yX6_layersOf, cX6_layersOf, 1, (some .int), true),
(6, yX6_leftLayersOf, cX6_leftLayersOf, 1, (some .int), true),
(6, yX6_rightLayersOf, cX6_rightLayersOf, 1, (some .int), true),
(7, yX7_in, cX7_in, 3, (some .boolean), true),
(7, yX7_isProfile, cX7_isProfile, 2, (some .boolean), false),
(7, yX7_isStrip, cX7_isStrip, 2, (some .boolean), false),
(7, yX7_isSitter, cX7_isSitter, 2, (some .boolean), false),
(7, yX7_copies, cX7_copies, 4, none, false),
(7, yX7_records, cX7_records, 3, none, false),
(7, yX7_becomes, cX7_becomes, 1, none, false),
(7, yX7_profileAt, cX7_profileAt, 2, (some .int), true),
(7, yX7_stripAt, cX7_stripAt, 2, (some .int), true),
(7, yX7_sitterAt, cX7_sitterAt, 2, (some .int), true),
(7, yX7_areAlike, cX7_areAlike, 6, (some .boolean), false),
(7, yX7_lowestAlike, cX7_lowestAlike, 4, (some .int), false),
(7, yX7_greatest, cX7_greatest, 5, (some .int), false),
(7, yX7_servedBy, cX7_servedBy, 9, (some .int), false),
(7, yX7_leaves, cX7_leaves, 4, none, false),
(7, yX7_serves, cX7_serves, 5, (some .boolean), false),
(7, yX7_servesAll, cX7_servesAll, 5, (some .int), false),
(7, yX7_ticks, cX7_ticks, 5, (some .int), false),
(7, yX7_adds, cX7_adds, 4, none, false),
(7, yX7_buy, cX7_buy, 4, (some .int), false),
(7, yX7_trade, cX7_trade, 4, (some .int), false),
(7, yX7_part, cX7_part, 4, (some .int), false),
(7, yX7_draw, cX7_draw, 6, (some .int), false),
(7, yX7_sits, cX7_sits, 6, none, false),
(7, yX7_come, cX7_come, 4, (some .int), false),
(7, yX7_isDigit, cX7_isDigit, 2, (some .boolean), false),
(7, yX7_reads, cX7_reads, 2, (some .boolean), false),
(7, yX7_kept, cX7_kept, 5, (some .int), false),
(7, yX7_fault, cX7_fault, 1, (some .int), false),
(7, yX7_comeAll, cX7_comeAll, 4, (some .int), false),
(7, yX7_serve, cX7_serve, 2, (some .int), false),
(7, yX7_serveAll, cX7_serveAll, 2, (some .int), false),
(7, yX7_taken, cX7_taken, 3, (some .int), false),
(7, yX7_why, cX7_why, 5, (some .int), false),
(7, yX7_cuts, cX7_cuts, 10, (some .int), false),
(7, yX7_cut, cX7_cut, 5, (some .int), false),
(7, yX7_turn, cX7_turn, 6, (some .int), false),
(7, yX7_set, cX7_set, 4, (some .int), false),
(7, yX7_type, cX7_type, 2, (some .int), false),
(7, yX7_clearText, cX7_clearText, 2, (some .int), false),
(7, yX7_undo, cX7_undo, 1, (some .int), false),
(7, yX7_keep, cX7_keep, 1, (some .int), false),
(7, yX7_restore, cX7_restore, 1, (some .int), false),
(7, yX7_width, cX7_width, 3, (some .int), false),
(7, yX7_sum, cX7_sum, 6, (some .int), false),
(7, yX7_wanting, cX7_wanting, 6, (some .int), false),
(7, yX7_profile, cX7_profile, 4, (some .int), false),
(7, yX7_layerWidth, cX7_layerWidth, 4, (some .int), false),
(7, yX7_mostFolds, cX7_mostFolds, 4, (some .int), false),
(7, yX7_strip, cX7_strip, 4, (some .int), false),
(7, yX7_sitter, cX7_sitter, 3, (some .int), false),
(7, yX7_wouldCut, cX7_wouldCut, 7, (some .int), false),
(7, yX7_ifCut, cX7_ifCut, 5, (some .int), false),
(7, yX7_bestStrip, cX7_bestStrip, 7, (some .int), false),
(7, yX7_fewestFolds, cX7_fewestFolds, 8, (some .int), false),
(7, yX7_stock, cX7_stock, 1, (some .int), false),
(7, yX7_count, cX7_count, 2, (some .int), false)]
/-- the locals of a method, by its number -/
def fp_nlL : List Nat := [4, 2, 2, 2, 2, 1, 4, 3, 4, 4, 6, 2, 2, 1, 3, 4, 4, 5, 3, 3, 4, 4, 5, 5, 3, 3, 3, 2, 3, 2, 2, 2, 2, 2, 2, 3, 3, 4, 4, 5, 2, 5, 4, 5, 2, 2, 1, 4, 3, 3, 3, 4, 4, 5, 5, 4, 3, 3, 2, 5, 6, 4, 2, 2, 1, 1, 1, 3, 4, 4, 3, 4, 6, 7, 9, 2, 1, 3, 1, 1, 1, 1, 1, 3, 2, 2, 2, 4, 3, 1, 2, 2, 2, 6, 4, 5, 9, 4, 5, 5, 5, 4, 4, 4, 4, 6, 6, 4, 2, 2, 5, 1, 4, 2, 2, 3, 5, 10, 5, 6, 4, 2, 2, 1, 1, 1, 3, 6, 6, 4, 4, 4, 4, 3, 7, 5, 7, 8, 1, 2]
abbrev FpE : Type := Instr × Nat × Nat × Nat × Nat × Nat
set_option maxRecDepth 100000 in
def fp_k0 (pc : Nat) : Option FpE := (bif Nat.ble pc 511 then (bif Nat.ble pc 309 then (bif Nat.ble pc 218 then (bif Nat.ble pc 169 then (bif Nat.ble pc 148 then (bif Nat.ble pc 20 then (bif Nat.ble pc 15 then (bif Nat.ble pc 7 then (bif Nat.ble pc 3 then (bif Nat.beq pc 3 then some (.dup, 4, 0, 0, 0, 0) else none) else (bif Nat.beq pc 7 then some (.astore_n 1, 8, 0, 0, 0, 0) else none)) else (bif Nat.ble pc 11 then (bif Nat.beq pc 11 then some (.dup, 12, 0, 0, 0, 0) else none) else (bif Nat.beq pc 15 then some (.astore_n 2, 16, 0, 0, 0, 0) else none))) else (bif Nat.ble pc 17 then (bif Nat.ble pc 16 then (bif Nat.beq pc 16 then some (.iconst 0, 17, 0, 0, 0, 0) else none) else (bif Nat.beq pc 17 then some (.istore_n 3, 18, 0, 0, 0, 0) else none)) else (bif Nat.ble pc 18 then (bif Nat.beq pc 18 then some (.iload_n 3, 19, 0, 0, 0, 0) else none) else (bif Nat.ble pc 19 then (bif Nat.beq pc 19 then some (.aload_n 0, 20, 0, 0, 0, 0) else none) else (bif Nat.beq pc 20 then some (.arraylength, 21, 0, 0, 0, 0) else none))))) else (bif Nat.ble pc 27 then (bif Nat.ble pc 22 then (bif Nat.ble pc 21 then (bif Nat.beq pc 21 then some (.iconst 5, 22, 0, 0, 0, 0) else none) else (bif Nat.beq pc 22 then some (.isub, 23, 0, 0, 0, 0) else none)) else (bif Nat.ble pc 23 then (bif Nat.beq pc 23 then some (.if_icmp .gt 884, 26, 907, 0, 0, 0) else none) else (bif Nat.ble pc 26 then (bif Nat.beq pc 26 then some (.aload_n 0, 27, 0, 0, 0, 0) else none) else (bif Nat.beq pc 27 then some (.iload_n 3, 28, 0, 0, 0, 0) else none)))) else (bif Nat.ble pc 29 then (bif Nat.ble pc 28 then (bif Nat.beq pc 28 then some (.iaload, 29, 0, 0, 0, 0) else none) else (bif Nat.beq pc 29 then some (.bipush 31, 31, 0, 0, 0, 0) else none)) else (bif Nat.ble pc 31 then (bif Nat.beq pc 31 then some (.iand, 32, 0, 0, 0, 0) else none) else (bif Nat.ble pc 32 then (bif Nat.beq pc 32 then some (.tableswitch 869 0 24 #[116, 149, 182, 215, 258, 301, 314, 337, 350, 393, 442, 475, 500, 513, 526, 539, 552, 585, 618, 661, 694, 727, 780, 813, 846], 148, 901, 0, 0, 0) else none) else (bif Nat.beq pc 148 then some (.aload_n 1, 149, 0, 0, 0, 0) else none)))))) else (bif Nat.ble pc 157 then (bif Nat.ble pc 152 then (bif Nat.ble pc 150 then (bif Nat.ble pc 149 then (bif Nat.beq pc 149 then some (.aload_n 0, 150, 0, 0, 0, 0) else none) else (bif Nat.beq pc 150 then some (.iload_n 3, 151, 0, 0, 0, 0) else none)) else (bif Nat.ble pc 151 then (bif Nat.beq pc 151 then some (.iconst 1, 152, 0, 0, 0, 0) else none) else (bif Nat.beq pc 152 then some (.iadd, 153, 0, 0, 0, 0) else none))) else (bif Nat.ble pc 154 then (bif Nat.ble pc 153 then (bif Nat.beq pc 153 then some (.iaload, 154, 0, 0, 0, 0) else none) else (bif Nat.beq pc 154 then some (.aload_n 0, 155, 0, 0, 0, 0) else none)) else (bif Nat.ble pc 155 then (bif Nat.beq pc 155 then some (.iload_n 3, 156, 0, 0, 0, 0) else none) else (bif Nat.ble pc 156 then (bif Nat.beq pc 156 then some (.iconst 2, 157, 0, 0, 0, 0) else none) else (bif Nat.beq pc 157 then some (.iadd, 158, 0, 0, 0, 0) else none))))) else (bif Nat.ble pc 164 then (bif Nat.ble pc 159 then (bif Nat.ble pc 158 then (bif Nat.beq pc 158 then some (.iaload, 159, 0, 0, 0, 0) else none) else (bif Nat.beq pc 159 then some (.invokevirtual 13, 162, 6, 51, 3, 253) else none)) else (bif Nat.ble pc 162 then (bif Nat.beq pc 162 then some (.aload_n 2, 163, 0, 0, 0, 0) else none) else (bif Nat.ble pc 163 then (bif Nat.beq pc 163 then some (.aload_n 0, 164, 0, 0, 0, 0) else none) else (bif Nat.beq pc 164 then some (.iload_n 3, 165, 0, 0, 0, 0) else none)))) else (bif Nat.ble pc 166 then (bif Nat.ble pc 165 then (bif Nat.beq pc 165 then some (.iconst 1, 166, 0, 0, 0, 0) else none) else (bif Nat.beq pc 166 then some (.iadd, 167, 0, 0, 0, 0) else none)) else (bif Nat.ble pc 167 then (bif Nat.beq pc 167 then some (.iaload, 168, 0, 0, 0, 0) else none) else (bif Nat.ble pc 168 then (bif Nat.beq pc 168 then some (.aload_n 0, 169, 0, 0, 0, 0) else none) else (bif Nat.beq pc 169 then some (.iload_n 3, 170, 0, 0, 0, 0) else none))))))) else (bif Nat.ble pc 192 then (bif Nat.ble pc 182 then (bif Nat.ble pc 173 then (bif Nat.ble pc 171 then (bif Nat.ble pc 170 then (bif Nat.beq pc 170 then some (.iconst 2, 171, 0, 0, 0, 0) else none) else (bif Nat.beq pc 171 then some (.iadd, 172, 0, 0, 0, 0) else none)) else (bif Nat.ble pc 172 then (bif Nat.beq pc 172 then some (.iaload, 173, 0, 0, 0, 0) else none) else (bif Nat.beq pc 173 then some (.invokevirtual 17, 176, 7, 102, 3, 629) else none))) else (bif Nat.ble pc 179 then (bif Nat.ble pc 176 then (bif Nat.beq pc 176 then some (.if_icmp .eq 725, 179, 901, 0, 0, 0) else none) else (bif Nat.beq pc 179 then some (.iconst 0, 180, 0, 0, 0, 0) else none)) else (bif Nat.ble pc 180 then (bif Nat.beq pc 180 then some (.ireturn, 181, 0, 0, 1, 0) else none) else (bif Nat.ble pc 181 then (bif Nat.beq pc 181 then some (.aload_n 1, 182, 0, 0, 0, 0) else none) else (bif Nat.beq pc 182 then some (.aload_n 0, 183, 0, 0, 0, 0) else none))))) else (bif Nat.ble pc 187 then (bif Nat.ble pc 184 then (bif Nat.ble pc 183 then (bif Nat.beq pc 183 then some (.iload_n 3, 184, 0, 0, 0, 0) else none) else (bif Nat.beq pc 184 then some (.iconst 1, 185, 0, 0, 0, 0) else none)) else (bif Nat.ble pc 185 then (bif Nat.beq pc 185 then some (.iadd, 186, 0, 0, 0, 0) else none) else (bif Nat.ble pc 186 then (bif Nat.beq pc 186 then some (.iaload, 187, 0, 0, 0, 0) else none) else (bif Nat.beq pc 187 then some (.aload_n 0, 188, 0, 0, 0, 0) else none)))) else (bif Nat.ble pc 189 then (bif Nat.ble pc 188 then (bif Nat.beq pc 188 then some (.iload_n 3, 189, 0, 0, 0, 0) else none) else (bif Nat.beq pc 189 then some (.iconst 2, 190, 0, 0, 0, 0) else none)) else (bif Nat.ble pc 190 then (bif Nat.beq pc 190 then some (.iadd, 191, 0, 0, 0, 0) else none) else (bif Nat.ble pc 191 then (bif Nat.beq pc 191 then some (.iaload, 192, 0, 0, 0, 0) else none) else (bif Nat.beq pc 192 then some (.invokevirtual 18, 195, 6, 52, 3, 294) else none)))))) else (bif Nat.ble pc 204 then (bif Nat.ble pc 199 then (bif Nat.ble pc 196 then (bif Nat.ble pc 195 then (bif Nat.beq pc 195 then some (.aload_n 2, 196, 0, 0, 0, 0) else none) else (bif Nat.beq pc 196 then some (.aload_n 0, 197, 0, 0, 0, 0) else none)) else (bif Nat.ble pc 197 then (bif Nat.beq pc 197 then some (.iload_n 3, 198, 0, 0, 0, 0) else none) else (bif Nat.ble pc 198 then (bif Nat.beq pc 198 then some (.iconst 1, 199, 0, 0, 0, 0) else none) else (bif Nat.beq pc 199 then some (.iadd, 200, 0, 0, 0, 0) else none)))) else (bif Nat.ble pc 201 then (bif Nat.ble pc 200 then (bif Nat.beq pc 200 then some (.iaload, 201, 0, 0, 0, 0) else none) else (bif Nat.beq pc 201 then some (.aload_n 0, 202, 0, 0, 0, 0) else none)) else (bif Nat.ble pc 202 then (bif Nat.beq pc 202 then some (.iload_n 3, 203, 0, 0, 0, 0) else none) else (bif Nat.ble pc 203 then (bif Nat.beq pc 203 then some (.iconst 2, 204, 0, 0, 0, 0) else none) else (bif Nat.beq pc 204 then some (.iadd, 205, 0, 0, 0, 0) else none))))) else (bif Nat.ble pc 213 then (bif Nat.ble pc 206 then (bif Nat.ble pc 205 then (bif Nat.beq pc 205 then some (.iaload, 206, 0, 0, 0, 0) else none) else (bif Nat.beq pc 206 then some (.invokevirtual 21, 209, 7, 103, 3, 651) else none)) else (bif Nat.ble pc 209 then (bif Nat.beq pc 209 then some (.if_icmp .eq 692, 212, 901, 0, 0, 0) else none) else (bif Nat.ble pc 212 then (bif Nat.beq pc 212 then some (.iconst 0, 213, 0, 0, 0, 0) else none) else (bif Nat.beq pc 213 then some (.ireturn, 214, 0, 0, 1, 0) else none)))) else (bif Nat.ble pc 215 then (bif Nat.ble pc 214 then (bif Nat.beq pc 214 then some (.aload_n 1, 215, 0, 0, 0, 0) else none) else (bif Nat.beq pc 215 then some (.aload_n 0, 216, 0, 0, 0, 0) else none)) else (bif Nat.ble pc 216 then (bif Nat.beq pc 216 then some (.iload_n 3, 217, 0, 0, 0, 0) else none) else (bif Nat.ble pc 217 then (bif Nat.beq pc 217 then some (.iconst 1, 218, 0, 0, 0, 0) else none) else (bif Nat.beq pc 218 then some (.iadd, 219, 0, 0, 0, 0) else none)))))))) else (bif Nat.ble pc 262 then (bif Nat.ble pc 239 then (bif Nat.ble pc 229 then (bif Nat.ble pc 222 then (bif Nat.ble pc 220 then (bif Nat.ble pc 219 then (bif Nat.beq pc 219 then some (.iaload, 220, 0, 0, 0, 0) else none) else (bif Nat.beq pc 220 then some (.aload_n 0, 221, 0, 0, 0, 0) else none)) else (bif Nat.ble pc 221 then (bif Nat.beq pc 221 then some (.iload_n 3, 222, 0, 0, 0, 0) else none) else (bif Nat.beq pc 222 then some (.iconst 2, 223, 0, 0, 0, 0) else none))) else (bif Nat.ble pc 224 then (bif Nat.ble pc 223 then (bif Nat.beq pc 223 then some (.iadd, 224, 0, 0, 0, 0) else none) else (bif Nat.beq pc 224 then some (.iaload, 225, 0, 0, 0, 0) else none)) else (bif Nat.ble pc 225 then (bif Nat.beq pc 225 then some (.invokevirtual 22, 228, 6, 53, 3, 302) else none) else (bif Nat.ble pc 228 then (bif Nat.beq pc 228 then some (.aload_n 2, 229, 0, 0, 0, 0) else none) else (bif Nat.beq pc 229 then some (.aload_n 0, 230, 0, 0, 0, 0) else none))))) else (bif Nat.ble pc 234 then (bif Nat.ble pc 231 then (bif Nat.ble pc 230 then (bif Nat.beq pc 230 then some (.iload_n 3, 231, 0, 0, 0, 0) else none) else (bif Nat.beq pc 231 then some (.iconst 1, 232, 0, 0, 0, 0) else none)) else (bif Nat.ble pc 232 then (bif Nat.beq pc 232 then some (.iadd, 233, 0, 0, 0, 0) else none) else (bif Nat.ble pc 233 then (bif Nat.beq pc 233 then some (.iaload, 234, 0, 0, 0, 0) else none) else (bif Nat.beq pc 234 then some (.aload_n 0, 235, 0, 0, 0, 0) else none)))) else (bif Nat.ble pc 236 then (bif Nat.ble pc 235 then (bif Nat.beq pc 235 then some (.iload_n 3, 236, 0, 0, 0, 0) else none) else (bif Nat.beq pc 236 then some (.iconst 2, 237, 0, 0, 0, 0) else none)) else (bif Nat.ble pc 237 then (bif Nat.beq pc 237 then some (.iadd, 238, 0, 0, 0, 0) else none) else (bif Nat.ble pc 238 then (bif Nat.beq pc 238 then some (.iaload, 239, 0, 0, 0, 0) else none) else (bif Nat.beq pc 239 then some (.invokevirtual 25, 242, 7, 104, 3, 659) else none)))))) else (bif Nat.ble pc 252 then (bif Nat.ble pc 247 then (bif Nat.ble pc 245 then (bif Nat.ble pc 242 then (bif Nat.beq pc 242 then some (.if_icmp .eq 659, 245, 901, 0, 0, 0) else none) else (bif Nat.beq pc 245 then some (.iconst 0, 246, 0, 0, 0, 0) else none)) else (bif Nat.ble pc 246 then (bif Nat.beq pc 246 then some (.ireturn, 247, 0, 0, 1, 0) else none) else (bif Nat.beq pc 247 then some (.aload_n 1, 248, 0, 0, 0, 0) else none))) else (bif Nat.ble pc 249 then (bif Nat.ble pc 248 then (bif Nat.beq pc 248 then some (.aload_n 0, 249, 0, 0, 0, 0) else none) else (bif Nat.beq pc 249 then some (.iload_n 3, 250, 0, 0, 0, 0) else none)) else (bif Nat.ble pc 250 then (bif Nat.beq pc 250 then some (.iconst 1, 251, 0, 0, 0, 0) else none) else (bif Nat.ble pc 251 then (bif Nat.beq pc 251 then some (.iadd, 252, 0, 0, 0, 0) else none) else (bif Nat.beq pc 252 then some (.iaload, 253, 0, 0, 0, 0) else none))))) else (bif Nat.ble pc 257 then (bif Nat.ble pc 254 then (bif Nat.ble pc 253 then (bif Nat.beq pc 253 then some (.aload_n 0, 254, 0, 0, 0, 0) else none) else (bif Nat.beq pc 254 then some (.iload_n 3, 255, 0, 0, 0, 0) else none)) else (bif Nat.ble pc 255 then (bif Nat.beq pc 255 then some (.iconst 2, 256, 0, 0, 0, 0) else none) else (bif Nat.ble pc 256 then (bif Nat.beq pc 256 then some (.iadd, 257, 0, 0, 0, 0) else none) else (bif Nat.beq pc 257 then some (.iaload, 258, 0, 0, 0, 0) else none)))) else (bif Nat.ble pc 259 then (bif Nat.ble pc 258 then (bif Nat.beq pc 258 then some (.aload_n 0, 259, 0, 0, 0, 0) else none) else (bif Nat.beq pc 259 then some (.iload_n 3, 260, 0, 0, 0, 0) else none)) else (bif Nat.ble pc 260 then (bif Nat.beq pc 260 then some (.iconst 3, 261, 0, 0, 0, 0) else none) else (bif Nat.ble pc 261 then (bif Nat.beq pc 261 then some (.iadd, 262, 0, 0, 0, 0) else none) else (bif Nat.beq pc 262 then some (.iaload, 263, 0, 0, 0, 0) else none))))))) else (bif Nat.ble pc 285 then (bif Nat.ble pc 273 then (bif Nat.ble pc 268 then (bif Nat.ble pc 266 then (bif Nat.ble pc 263 then (bif Nat.beq pc 263 then some (.invokevirtual 26, 266, 6, 54, 4, 306) else none) else (bif Nat.beq pc 266 then some (.aload_n 2, 267, 0, 0, 0, 0) else none)) else (bif Nat.ble pc 267 then (bif Nat.beq pc 267 then some (.aload_n 0, 268, 0, 0, 0, 0) else none) else (bif Nat.beq pc 268 then some (.iload_n 3, 269, 0, 0, 0, 0) else none))) else (bif Nat.ble pc 270 then (bif Nat.ble pc 269 then (bif Nat.beq pc 269 then some (.iconst 1, 270, 0, 0, 0, 0) else none) else (bif Nat.beq pc 270 then some (.iadd, 271, 0, 0, 0, 0) else none)) else (bif Nat.ble pc 271 then (bif Nat.beq pc 271 then some (.iaload, 272, 0, 0, 0, 0) else none) else (bif Nat.ble pc 272 then (bif Nat.beq pc 272 then some (.aload_n 0, 273, 0, 0, 0, 0) else none) else (bif Nat.beq pc 273 then some (.iload_n 3, 274, 0, 0, 0, 0) else none))))) else (bif Nat.ble pc 278 then (bif Nat.ble pc 275 then (bif Nat.ble pc 274 then (bif Nat.beq pc 274 then some (.iconst 2, 275, 0, 0, 0, 0) else none) else (bif Nat.beq pc 275 then some (.iadd, 276, 0, 0, 0, 0) else none)) else (bif Nat.ble pc 276 then (bif Nat.beq pc 276 then some (.iaload, 277, 0, 0, 0, 0) else none) else (bif Nat.ble pc 277 then (bif Nat.beq pc 277 then some (.aload_n 0, 278, 0, 0, 0, 0) else none) else (bif Nat.beq pc 278 then some (.iload_n 3, 279, 0, 0, 0, 0) else none)))) else (bif Nat.ble pc 280 then (bif Nat.ble pc 279 then (bif Nat.beq pc 279 then some (.iconst 3, 280, 0, 0, 0, 0) else none) else (bif Nat.beq pc 280 then some (.iadd, 281, 0, 0, 0, 0) else none)) else (bif Nat.ble pc 281 then (bif Nat.beq pc 281 then some (.iaload, 282, 0, 0, 0, 0) else none) else (bif Nat.ble pc 282 then (bif Nat.beq pc 282 then some (.invokevirtual 30, 285, 7, 105, 4, 663) else none) else (bif Nat.beq pc 285 then some (.if_icmp .eq 616, 288, 901, 0, 0, 0) else none)))))) else (bif Nat.ble pc 297 then (bif Nat.ble pc 292 then (bif Nat.ble pc 289 then (bif Nat.ble pc 288 then (bif Nat.beq pc 288 then some (.iconst 0, 289, 0, 0, 0, 0) else none) else (bif Nat.beq pc 289 then some (.ireturn, 290, 0, 0, 1, 0) else none)) else (bif Nat.ble pc 290 then (bif Nat.beq pc 290 then some (.aload_n 1, 291, 0, 0, 0, 0) else none) else (bif Nat.ble pc 291 then (bif Nat.beq pc 291 then some (.aload_n 0, 292, 0, 0, 0, 0) else none) else (bif Nat.beq pc 292 then some (.iload_n 3, 293, 0, 0, 0, 0) else none)))) else (bif Nat.ble pc 294 then (bif Nat.ble pc 293 then (bif Nat.beq pc 293 then some (.iconst 1, 294, 0, 0, 0, 0) else none) else (bif Nat.beq pc 294 then some (.iadd, 295, 0, 0, 0, 0) else none)) else (bif Nat.ble pc 295 then (bif Nat.beq pc 295 then some (.iaload, 296, 0, 0, 0, 0) else none) else (bif Nat.ble pc 296 then (bif Nat.beq pc 296 then some (.aload_n 0, 297, 0, 0, 0, 0) else none) else (bif Nat.beq pc 297 then some (.iload_n 3, 298, 0, 0, 0, 0) else none))))) else (bif Nat.ble pc 302 then (bif Nat.ble pc 299 then (bif Nat.ble pc 298 then (bif Nat.beq pc 298 then some (.iconst 2, 299, 0, 0, 0, 0) else none) else (bif Nat.beq pc 299 then some (.iadd, 300, 0, 0, 0, 0) else none)) else (bif Nat.ble pc 300 then (bif Nat.beq pc 300 then some (.iaload, 301, 0, 0, 0, 0) else none) else (bif Nat.ble pc 301 then (bif Nat.beq pc 301 then some (.aload_n 0, 302, 0, 0, 0, 0) else none) else (bif Nat.beq pc 302 then some (.iload_n 3, 303, 0, 0, 0, 0) else none)))) else (bif Nat.ble pc 304 then (bif Nat.ble pc 303 then (bif Nat.beq pc 303 then some (.iconst 3, 304, 0, 0, 0, 0) else none) else (bif Nat.beq pc 304 then some (.iadd, 305, 0, 0, 0, 0) else none)) else (bif Nat.ble pc 305 then (bif Nat.beq pc 305 then some (.iaload, 306, 0, 0, 0, 0) else none) else (bif Nat.ble pc 306 then (bif Nat.beq pc 306 then some (.invokevirtual 31, 309, 6, 55, 4, 329) else none) else (bif Nat.beq pc 309 then some (.aload_n 2, 310, 0, 0, 0, 0) else none))))))))) else (bif Nat.ble pc 410 then (bif Nat.ble pc 359 then (bif Nat.ble pc 332 then (bif Nat.ble pc 318 then (bif Nat.ble pc 313 then (bif Nat.ble pc 311 then (bif Nat.ble pc 310 then (bif Nat.beq pc 310 then some (.aload_n 0, 311, 0, 0, 0, 0) else none) else (bif Nat.beq pc 311 then some (.iload_n 3, 312, 0, 0, 0, 0) else none)) else (bif Nat.ble pc 312 then (bif Nat.beq pc 312 then some (.iconst 1, 313, 0, 0, 0, 0) else none) else (bif Nat.beq pc 313 then some (.iadd, 314, 0, 0, 0, 0) else none))) else (bif Nat.ble pc 315 then (bif Nat.ble pc 314 then (bif Nat.beq pc 314 then some (.iaload, 315, 0, 0, 0, 0) else none) else (bif Nat.beq pc 315 then some (.aload_n 0, 316, 0, 0, 0, 0) else none)) else (bif Nat.ble pc 316 then (bif Nat.beq pc 316 then some (.iload_n 3, 317, 0, 0, 0, 0) else none) else (bif Nat.ble pc 317 then (bif Nat.beq pc 317 then some (.iconst 2, 318, 0, 0, 0, 0) else none) else (bif Nat.beq pc 318 then some (.iadd, 319, 0, 0, 0, 0) else none))))) else (bif Nat.ble pc 323 then (bif Nat.ble pc 320 then (bif Nat.ble pc 319 then (bif Nat.beq pc 319 then some (.iaload, 320, 0, 0, 0, 0) else none) else (bif Nat.beq pc 320 then some (.aload_n 0, 321, 0, 0, 0, 0) else none)) else (bif Nat.ble pc 321 then (bif Nat.beq pc 321 then some (.iload_n 3, 322, 0, 0, 0, 0) else none) else (bif Nat.ble pc 322 then (bif Nat.beq pc 322 then some (.iconst 3, 323, 0, 0, 0, 0) else none) else (bif Nat.beq pc 323 then some (.iadd, 324, 0, 0, 0, 0) else none)))) else (bif Nat.ble pc 325 then (bif Nat.ble pc 324 then (bif Nat.beq pc 324 then some (.iaload, 325, 0, 0, 0, 0) else none) else (bif Nat.beq pc 325 then some (.invokevirtual 34, 328, 7, 107, 4, 674) else none)) else (bif Nat.ble pc 328 then (bif Nat.beq pc 328 then some (.if_icmp .eq 573, 331, 901, 0, 0, 0) else none) else (bif Nat.ble pc 331 then (bif Nat.beq pc 331 then some (.iconst 0, 332, 0, 0, 0, 0) else none) else (bif Nat.beq pc 332 then some (.ireturn, 333, 0, 0, 1, 0) else none)))))) else (bif Nat.ble pc 347 then (bif Nat.ble pc 338 then (bif Nat.ble pc 334 then (bif Nat.ble pc 333 then (bif Nat.beq pc 333 then some (.aload_n 1, 334, 0, 0, 0, 0) else none) else (bif Nat.beq pc 334 then some (.invokevirtual 35, 337, 6, 56, 1, 341) else none)) else (bif Nat.ble pc 337 then (bif Nat.beq pc 337 then some (.aload_n 2, 338, 0, 0, 0, 0) else none) else (bif Nat.beq pc 338 then some (.invokevirtual 39, 341, 7, 112, 1, 685) else none))) else (bif Nat.ble pc 344 then (bif Nat.ble pc 341 then (bif Nat.beq pc 341 then some (.if_icmp .eq 560, 344, 901, 0, 0, 0) else none) else (bif Nat.beq pc 344 then some (.iconst 0, 345, 0, 0, 0, 0) else none)) else (bif Nat.ble pc 345 then (bif Nat.beq pc 345 then some (.ireturn, 346, 0, 0, 1, 0) else none) else (bif Nat.ble pc 346 then (bif Nat.beq pc 346 then some (.aload_n 1, 347, 0, 0, 0, 0) else none) else (bif Nat.beq pc 347 then some (.aload_n 0, 348, 0, 0, 0, 0) else none))))) else (bif Nat.ble pc 352 then (bif Nat.ble pc 349 then (bif Nat.ble pc 348 then (bif Nat.beq pc 348 then some (.iload_n 3, 349, 0, 0, 0, 0) else none) else (bif Nat.beq pc 349 then some (.iconst 1, 350, 0, 0, 0, 0) else none)) else (bif Nat.ble pc 350 then (bif Nat.beq pc 350 then some (.iadd, 351, 0, 0, 0, 0) else none) else (bif Nat.ble pc 351 then (bif Nat.beq pc 351 then some (.iaload, 352, 0, 0, 0, 0) else none) else (bif Nat.beq pc 352 then some (.invokevirtual 40, 355, 6, 57, 2, 391) else none)))) else (bif Nat.ble pc 356 then (bif Nat.ble pc 355 then (bif Nat.beq pc 355 then some (.aload_n 2, 356, 0, 0, 0, 0) else none) else (bif Nat.beq pc 356 then some (.aload_n 0, 357, 0, 0, 0, 0) else none)) else (bif Nat.ble pc 357 then (bif Nat.beq pc 357 then some (.iload_n 3, 358, 0, 0, 0, 0) else none) else (bif Nat.ble pc 358 then (bif Nat.beq pc 358 then some (.iconst 1, 359, 0, 0, 0, 0) else none) else (bif Nat.beq pc 359 then some (.iadd, 360, 0, 0, 0, 0) else none))))))) else (bif Nat.ble pc 388 then (bif Nat.ble pc 374 then (bif Nat.ble pc 367 then (bif Nat.ble pc 361 then (bif Nat.ble pc 360 then (bif Nat.beq pc 360 then some (.iaload, 361, 0, 0, 0, 0) else none) else (bif Nat.beq pc 361 then some (.invokevirtual 44, 364, 7, 113, 2, 709) else none)) else (bif Nat.ble pc 364 then (bif Nat.beq pc 364 then some (.if_icmp .eq 537, 367, 901, 0, 0, 0) else none) else (bif Nat.beq pc 367 then some (.iconst 0, 368, 0, 0, 0, 0) else none))) else (bif Nat.ble pc 369 then (bif Nat.ble pc 368 then (bif Nat.beq pc 368 then some (.ireturn, 369, 0, 0, 1, 0) else none) else (bif Nat.beq pc 369 then some (.aload_n 1, 370, 0, 0, 0, 0) else none)) else (bif Nat.ble pc 370 then (bif Nat.beq pc 370 then some (.invokevirtual 45, 373, 6, 58, 1, 423) else none) else (bif Nat.ble pc 373 then (bif Nat.beq pc 373 then some (.aload_n 2, 374, 0, 0, 0, 0) else none) else (bif Nat.beq pc 374 then some (.invokevirtual 48, 377, 7, 114, 1, 733) else none))))) else (bif Nat.ble pc 383 then (bif Nat.ble pc 380 then (bif Nat.ble pc 377 then (bif Nat.beq pc 377 then some (.if_icmp .eq 524, 380, 901, 0, 0, 0) else none) else (bif Nat.beq pc 380 then some (.iconst 0, 381, 0, 0, 0, 0) else none)) else (bif Nat.ble pc 381 then (bif Nat.beq pc 381 then some (.ireturn, 382, 0, 0, 1, 0) else none) else (bif Nat.ble pc 382 then (bif Nat.beq pc 382 then some (.aload_n 1, 383, 0, 0, 0, 0) else none) else (bif Nat.beq pc 383 then some (.aload_n 0, 384, 0, 0, 0, 0) else none)))) else (bif Nat.ble pc 385 then (bif Nat.ble pc 384 then (bif Nat.beq pc 384 then some (.iload_n 3, 385, 0, 0, 0, 0) else none) else (bif Nat.beq pc 385 then some (.iconst 1, 386, 0, 0, 0, 0) else none)) else (bif Nat.ble pc 386 then (bif Nat.beq pc 386 then some (.iadd, 387, 0, 0, 0, 0) else none) else (bif Nat.ble pc 387 then (bif Nat.beq pc 387 then some (.iaload, 388, 0, 0, 0, 0) else none) else (bif Nat.beq pc 388 then some (.aload_n 0, 389, 0, 0, 0, 0) else none)))))) else (bif Nat.ble pc 398 then (bif Nat.ble pc 393 then (bif Nat.ble pc 390 then (bif Nat.ble pc 389 then (bif Nat.beq pc 389 then some (.iload_n 3, 390, 0, 0, 0, 0) else none) else (bif Nat.beq pc 390 then some (.iconst 2, 391, 0, 0, 0, 0) else none)) else (bif Nat.ble pc 391 then (bif Nat.beq pc 391 then some (.iadd, 392, 0, 0, 0, 0) else none) else (bif Nat.ble pc 392 then (bif Nat.beq pc 392 then some (.iaload, 393, 0, 0, 0, 0) else none) else (bif Nat.beq pc 393 then some (.aload_n 0, 394, 0, 0, 0, 0) else none)))) else (bif Nat.ble pc 395 then (bif Nat.ble pc 394 then (bif Nat.beq pc 394 then some (.iload_n 3, 395, 0, 0, 0, 0) else none) else (bif Nat.beq pc 395 then some (.iconst 3, 396, 0, 0, 0, 0) else none)) else (bif Nat.ble pc 396 then (bif Nat.beq pc 396 then some (.iadd, 397, 0, 0, 0, 0) else none) else (bif Nat.ble pc 397 then (bif Nat.beq pc 397 then some (.iaload, 398, 0, 0, 0, 0) else none) else (bif Nat.beq pc 398 then some (.invokevirtual 49, 401, 6, 59, 4, 433) else none))))) else (bif Nat.ble pc 405 then (bif Nat.ble pc 402 then (bif Nat.ble pc 401 then (bif Nat.beq pc 401 then some (.aload_n 2, 402, 0, 0, 0, 0) else none) else (bif Nat.beq pc 402 then some (.aload_n 0, 403, 0, 0, 0, 0) else none)) else (bif Nat.ble pc 403 then (bif Nat.beq pc 403 then some (.iload_n 3, 404, 0, 0, 0, 0) else none) else (bif Nat.ble pc 404 then (bif Nat.beq pc 404 then some (.iconst 1, 405, 0, 0, 0, 0) else none) else (bif Nat.beq pc 405 then some (.iadd, 406, 0, 0, 0, 0) else none)))) else (bif Nat.ble pc 407 then (bif Nat.ble pc 406 then (bif Nat.beq pc 406 then some (.iaload, 407, 0, 0, 0, 0) else none) else (bif Nat.beq pc 407 then some (.aload_n 0, 408, 0, 0, 0, 0) else none)) else (bif Nat.ble pc 408 then (bif Nat.beq pc 408 then some (.iload_n 3, 409, 0, 0, 0, 0) else none) else (bif Nat.ble pc 409 then (bif Nat.beq pc 409 then some (.iconst 2, 410, 0, 0, 0, 0) else none) else (bif Nat.beq pc 410 then some (.iadd, 411, 0, 0, 0, 0) else none)))))))) else (bif Nat.ble pc 458 then (bif Nat.ble pc 433 then (bif Nat.ble pc 423 then (bif Nat.ble pc 414 then (bif Nat.ble pc 412 then (bif Nat.ble pc 411 then (bif Nat.beq pc 411 then some (.iaload, 412, 0, 0, 0, 0) else none) else (bif Nat.beq pc 412 then some (.aload_n 0, 413, 0, 0, 0, 0) else none)) else (bif Nat.ble pc 413 then (bif Nat.beq pc 413 then some (.iload_n 3, 414, 0, 0, 0, 0) else none) else (bif Nat.beq pc 414 then some (.iconst 3, 415, 0, 0, 0, 0) else none))) else (bif Nat.ble pc 416 then (bif Nat.ble pc 415 then (bif Nat.beq pc 415 then some (.iadd, 416, 0, 0, 0, 0) else none) else (bif Nat.beq pc 416 then some (.iaload, 417, 0, 0, 0, 0) else none)) else (bif Nat.ble pc 417 then (bif Nat.beq pc 417 then some (.invokevirtual 52, 420, 7, 118, 4, 741) else none) else (bif Nat.ble pc 420 then (bif Nat.beq pc 420 then some (.if_icmp .eq 481, 423, 901, 0, 0, 0) else none) else (bif Nat.beq pc 423 then some (.iconst 0, 424, 0, 0, 0, 0) else none))))) else (bif Nat.ble pc 428 then (bif Nat.ble pc 425 then (bif Nat.ble pc 424 then (bif Nat.beq pc 424 then some (.ireturn, 425, 0, 0, 1, 0) else none) else (bif Nat.beq pc 425 then some (.aload_n 1, 426, 0, 0, 0, 0) else none)) else (bif Nat.ble pc 426 then (bif Nat.beq pc 426 then some (.aload_n 0, 427, 0, 0, 0, 0) else none) else (bif Nat.ble pc 427 then (bif Nat.beq pc 427 then some (.iload_n 3, 428, 0, 0, 0, 0) else none) else (bif Nat.beq pc 428 then some (.iconst 1, 429, 0, 0, 0, 0) else none)))) else (bif Nat.ble pc 430 then (bif Nat.ble pc 429 then (bif Nat.beq pc 429 then some (.iadd, 430, 0, 0, 0, 0) else none) else (bif Nat.beq pc 430 then some (.iaload, 431, 0, 0, 0, 0) else none)) else (bif Nat.ble pc 431 then (bif Nat.beq pc 431 then some (.aload_n 0, 432, 0, 0, 0, 0) else none) else (bif Nat.ble pc 432 then (bif Nat.beq pc 432 then some (.iload_n 3, 433, 0, 0, 0, 0) else none) else (bif Nat.beq pc 433 then some (.iconst 2, 434, 0, 0, 0, 0) else none)))))) else (bif Nat.ble pc 448 then (bif Nat.ble pc 439 then (bif Nat.ble pc 435 then (bif Nat.ble pc 434 then (bif Nat.beq pc 434 then some (.iadd, 435, 0, 0, 0, 0) else none) else (bif Nat.beq pc 435 then some (.iaload, 436, 0, 0, 0, 0) else none)) else (bif Nat.ble pc 436 then (bif Nat.beq pc 436 then some (.ifCond .eq 7, 439, 443, 0, 0, 0) else none) else (bif Nat.beq pc 439 then some (.iconst 1, 440, 0, 0, 0, 0) else none))) else (bif Nat.ble pc 443 then (bif Nat.ble pc 440 then (bif Nat.beq pc 440 then some (.goto 4, 443, 444, 0, 0, 0) else none) else (bif Nat.beq pc 443 then some (.iconst 0, 444, 0, 0, 0, 0) else none)) else (bif Nat.ble pc 444 then (bif Nat.beq pc 444 then some (.invokevirtual 53, 447, 6, 60, 3, 490) else none) else (bif Nat.ble pc 447 then (bif Nat.beq pc 447 then some (.aload_n 2, 448, 0, 0, 0, 0) else none) else (bif Nat.beq pc 448 then some (.aload_n 0, 449, 0, 0, 0, 0) else none))))) else (bif Nat.ble pc 453 then (bif Nat.ble pc 450 then (bif Nat.ble pc 449 then (bif Nat.beq pc 449 then some (.iload_n 3, 450, 0, 0, 0, 0) else none) else (bif Nat.beq pc 450 then some (.iconst 1, 451, 0, 0, 0, 0) else none)) else (bif Nat.ble pc 451 then (bif Nat.beq pc 451 then some (.iadd, 452, 0, 0, 0, 0) else none) else (bif Nat.ble pc 452 then (bif Nat.beq pc 452 then some (.iaload, 453, 0, 0, 0, 0) else none) else (bif Nat.beq pc 453 then some (.aload_n 0, 454, 0, 0, 0, 0) else none)))) else (bif Nat.ble pc 455 then (bif Nat.ble pc 454 then (bif Nat.beq pc 454 then some (.iload_n 3, 455, 0, 0, 0, 0) else none) else (bif Nat.beq pc 455 then some (.iconst 2, 456, 0, 0, 0, 0) else none)) else (bif Nat.ble pc 456 then (bif Nat.beq pc 456 then some (.iadd, 457, 0, 0, 0, 0) else none) else (bif Nat.ble pc 457 then (bif Nat.beq pc 457 then some (.iaload, 458, 0, 0, 0, 0) else none) else (bif Nat.beq pc 458 then some (.ifCond .eq 7, 461, 465, 0, 0, 0) else none))))))) else (bif Nat.ble pc 485 then (bif Nat.ble pc 475 then (bif Nat.ble pc 466 then (bif Nat.ble pc 462 then (bif Nat.ble pc 461 then (bif Nat.beq pc 461 then some (.iconst 1, 462, 0, 0, 0, 0) else none) else (bif Nat.beq pc 462 then some (.goto 4, 465, 466, 0, 0, 0) else none)) else (bif Nat.ble pc 465 then (bif Nat.beq pc 465 then some (.iconst 0, 466, 0, 0, 0, 0) else none) else (bif Nat.beq pc 466 then some (.invokevirtual 57, 469, 7, 119, 3, 765) else none))) else (bif Nat.ble pc 472 then (bif Nat.ble pc 469 then (bif Nat.beq pc 469 then some (.if_icmp .eq 432, 472, 901, 0, 0, 0) else none) else (bif Nat.beq pc 472 then some (.iconst 0, 473, 0, 0, 0, 0) else none)) else (bif Nat.ble pc 473 then (bif Nat.beq pc 473 then some (.ireturn, 474, 0, 0, 1, 0) else none) else (bif Nat.ble pc 474 then (bif Nat.beq pc 474 then some (.aload_n 1, 475, 0, 0, 0, 0) else none) else (bif Nat.beq pc 475 then some (.aload_n 0, 476, 0, 0, 0, 0) else none))))) else (bif Nat.ble pc 480 then (bif Nat.ble pc 477 then (bif Nat.ble pc 476 then (bif Nat.beq pc 476 then some (.iload_n 3, 477, 0, 0, 0, 0) else none) else (bif Nat.beq pc 477 then some (.iconst 1, 478, 0, 0, 0, 0) else none)) else (bif Nat.ble pc 478 then (bif Nat.beq pc 478 then some (.iadd, 479, 0, 0, 0, 0) else none) else (bif Nat.ble pc 479 then (bif Nat.beq pc 479 then some (.iaload, 480, 0, 0, 0, 0) else none) else (bif Nat.beq pc 480 then some (.aload_n 0, 481, 0, 0, 0, 0) else none)))) else (bif Nat.ble pc 482 then (bif Nat.ble pc 481 then (bif Nat.beq pc 481 then some (.iload_n 3, 482, 0, 0, 0, 0) else none) else (bif Nat.beq pc 482 then some (.iconst 2, 483, 0, 0, 0, 0) else none)) else (bif Nat.ble pc 483 then (bif Nat.beq pc 483 then some (.iadd, 484, 0, 0, 0, 0) else none) else (bif Nat.ble pc 484 then (bif Nat.beq pc 484 then some (.iaload, 485, 0, 0, 0, 0) else none) else (bif Nat.beq pc 485 then some (.invokevirtual 58, 488, 6, 61, 3, 495) else none)))))) else (bif Nat.ble pc 497 then (bif Nat.ble pc 492 then (bif Nat.ble pc 489 then (bif Nat.ble pc 488 then (bif Nat.beq pc 488 then some (.aload_n 2, 489, 0, 0, 0, 0) else none) else (bif Nat.beq pc 489 then some (.aload_n 0, 490, 0, 0, 0, 0) else none)) else (bif Nat.ble pc 490 then (bif Nat.beq pc 490 then some (.iload_n 3, 491, 0, 0, 0, 0) else none) else (bif Nat.ble pc 491 then (bif Nat.beq pc 491 then some (.iconst 1, 492, 0, 0, 0, 0) else none) else (bif Nat.beq pc 492 then some (.iadd, 493, 0, 0, 0, 0) else none)))) else (bif Nat.ble pc 494 then (bif Nat.ble pc 493 then (bif Nat.beq pc 493 then some (.iaload, 494, 0, 0, 0, 0) else none) else (bif Nat.beq pc 494 then some (.aload_n 0, 495, 0, 0, 0, 0) else none)) else (bif Nat.ble pc 495 then (bif Nat.beq pc 495 then some (.iload_n 3, 496, 0, 0, 0, 0) else none) else (bif Nat.ble pc 496 then (bif Nat.beq pc 496 then some (.iconst 2, 497, 0, 0, 0, 0) else none) else (bif Nat.beq pc 497 then some (.iadd, 498, 0, 0, 0, 0) else none))))) else (bif Nat.ble pc 506 then (bif Nat.ble pc 499 then (bif Nat.ble pc 498 then (bif Nat.beq pc 498 then some (.iaload, 499, 0, 0, 0, 0) else none) else (bif Nat.beq pc 499 then some (.invokevirtual 61, 502, 7, 120, 3, 769) else none)) else (bif Nat.ble pc 502 then (bif Nat.beq pc 502 then some (.if_icmp .eq 399, 505, 901, 0, 0, 0) else none) else (bif Nat.ble pc 505 then (bif Nat.beq pc 505 then some (.iconst 0, 506, 0, 0, 0, 0) else none) else (bif Nat.beq pc 506 then some (.ireturn, 507, 0, 0, 1, 0) else none)))) else (bif Nat.ble pc 508 then (bif Nat.ble pc 507 then (bif Nat.beq pc 507 then some (.aload_n 1, 508, 0, 0, 0, 0) else none) else (bif Nat.beq pc 508 then some (.aload_n 0, 509, 0, 0, 0, 0) else none)) else (bif Nat.ble pc 509 then (bif Nat.beq pc 509 then some (.iload_n 3, 510, 0, 0, 0, 0) else none) else (bif Nat.ble pc 510 then (bif Nat.beq pc 510 then some (.iconst 1, 511, 0, 0, 0, 0) else none) else (bif Nat.beq pc 511 then some (.iadd, 512, 0, 0, 0, 0) else none)))))))))) else (bif Nat.ble pc 715 then (bif Nat.ble pc 624 then (bif Nat.ble pc 575 then (bif Nat.ble pc 540 then (bif Nat.ble pc 522 then (bif Nat.ble pc 517 then (bif Nat.ble pc 513 then (bif Nat.ble pc 512 then (bif Nat.beq pc 512 then some (.iaload, 513, 0, 0, 0, 0) else none) else (bif Nat.beq pc 513 then some (.i2c, 514, 0, 0, 0, 0) else none)) else (bif Nat.ble pc 514 then (bif Nat.beq pc 514 then some (.invokevirtual 62, 517, 6, 62, 2, 503) else none) else (bif Nat.beq pc 517 then some (.aload_n 2, 518, 0, 0, 0, 0) else none))) else (bif Nat.ble pc 519 then (bif Nat.ble pc 518 then (bif Nat.beq pc 518 then some (.aload_n 0, 519, 0, 0, 0, 0) else none) else (bif Nat.beq pc 519 then some (.iload_n 3, 520, 0, 0, 0, 0) else none)) else (bif Nat.ble pc 520 then (bif Nat.beq pc 520 then some (.iconst 1, 521, 0, 0, 0, 0) else none) else (bif Nat.ble pc 521 then (bif Nat.beq pc 521 then some (.iadd, 522, 0, 0, 0, 0) else none) else (bif Nat.beq pc 522 then some (.iaload, 523, 0, 0, 0, 0) else none))))) else (bif Nat.ble pc 531 then (bif Nat.ble pc 524 then (bif Nat.ble pc 523 then (bif Nat.beq pc 523 then some (.i2c, 524, 0, 0, 0, 0) else none) else (bif Nat.beq pc 524 then some (.invokevirtual 66, 527, 7, 121, 2, 773) else none)) else (bif Nat.ble pc 527 then (bif Nat.beq pc 527 then some (.if_icmp .eq 374, 530, 901, 0, 0, 0) else none) else (bif Nat.ble pc 530 then (bif Nat.beq pc 530 then some (.iconst 0, 531, 0, 0, 0, 0) else none) else (bif Nat.beq pc 531 then some (.ireturn, 532, 0, 0, 1, 0) else none)))) else (bif Nat.ble pc 533 then (bif Nat.ble pc 532 then (bif Nat.beq pc 532 then some (.aload_n 1, 533, 0, 0, 0, 0) else none) else (bif Nat.beq pc 533 then some (.invokevirtual 67, 536, 6, 63, 1, 507) else none)) else (bif Nat.ble pc 536 then (bif Nat.beq pc 536 then some (.aload_n 2, 537, 0, 0, 0, 0) else none) else (bif Nat.ble pc 537 then (bif Nat.beq pc 537 then some (.invokevirtual 70, 540, 7, 122, 1, 777) else none) else (bif Nat.beq pc 540 then some (.if_icmp .eq 361, 543, 901, 0, 0, 0) else none)))))) else (bif Nat.ble pc 557 then (bif Nat.ble pc 546 then (bif Nat.ble pc 544 then (bif Nat.ble pc 543 then (bif Nat.beq pc 543 then some (.iconst 0, 544, 0, 0, 0, 0) else none) else (bif Nat.beq pc 544 then some (.ireturn, 545, 0, 0, 1, 0) else none)) else (bif Nat.ble pc 545 then (bif Nat.beq pc 545 then some (.aload_n 1, 546, 0, 0, 0, 0) else none) else (bif Nat.beq pc 546 then some (.invokevirtual 71, 549, 6, 64, 1, 511) else none))) else (bif Nat.ble pc 550 then (bif Nat.ble pc 549 then (bif Nat.beq pc 549 then some (.aload_n 2, 550, 0, 0, 0, 0) else none) else (bif Nat.beq pc 550 then some (.invokevirtual 74, 553, 7, 123, 1, 781) else none)) else (bif Nat.ble pc 553 then (bif Nat.beq pc 553 then some (.if_icmp .eq 348, 556, 901, 0, 0, 0) else none) else (bif Nat.ble pc 556 then (bif Nat.beq pc 556 then some (.iconst 0, 557, 0, 0, 0, 0) else none) else (bif Nat.beq pc 557 then some (.ireturn, 558, 0, 0, 1, 0) else none))))) else (bif Nat.ble pc 566 then (bif Nat.ble pc 559 then (bif Nat.ble pc 558 then (bif Nat.beq pc 558 then some (.aload_n 1, 559, 0, 0, 0, 0) else none) else (bif Nat.beq pc 559 then some (.invokevirtual 75, 562, 6, 65, 1, 519) else none)) else (bif Nat.ble pc 562 then (bif Nat.beq pc 562 then some (.aload_n 2, 563, 0, 0, 0, 0) else none) else (bif Nat.ble pc 563 then (bif Nat.beq pc 563 then some (.invokevirtual 78, 566, 7, 124, 1, 785) else none) else (bif Nat.beq pc 566 then some (.if_icmp .eq 335, 569, 901, 0, 0, 0) else none)))) else (bif Nat.ble pc 570 then (bif Nat.ble pc 569 then (bif Nat.beq pc 569 then some (.iconst 0, 570, 0, 0, 0, 0) else none) else (bif Nat.beq pc 570 then some (.ireturn, 571, 0, 0, 1, 0) else none)) else (bif Nat.ble pc 571 then (bif Nat.beq pc 571 then some (.aload_n 1, 572, 0, 0, 0, 0) else none) else (bif Nat.ble pc 572 then (bif Nat.beq pc 572 then some (.invokevirtual 79, 575, 6, 66, 1, 523) else none) else (bif Nat.beq pc 575 then some (.aload_n 2, 576, 0, 0, 0, 0) else none))))))) else (bif Nat.ble pc 600 then (bif Nat.ble pc 588 then (bif Nat.ble pc 583 then (bif Nat.ble pc 579 then (bif Nat.ble pc 576 then (bif Nat.beq pc 576 then some (.invokevirtual 82, 579, 7, 125, 1, 789) else none) else (bif Nat.beq pc 579 then some (.if_icmp .eq 322, 582, 901, 0, 0, 0) else none)) else (bif Nat.ble pc 582 then (bif Nat.beq pc 582 then some (.iconst 0, 583, 0, 0, 0, 0) else none) else (bif Nat.beq pc 583 then some (.ireturn, 584, 0, 0, 1, 0) else none))) else (bif Nat.ble pc 585 then (bif Nat.ble pc 584 then (bif Nat.beq pc 584 then some (.aload_n 1, 585, 0, 0, 0, 0) else none) else (bif Nat.beq pc 585 then some (.aload_n 0, 586, 0, 0, 0, 0) else none)) else (bif Nat.ble pc 586 then (bif Nat.beq pc 586 then some (.iload_n 3, 587, 0, 0, 0, 0) else none) else (bif Nat.ble pc 587 then (bif Nat.beq pc 587 then some (.iconst 1, 588, 0, 0, 0, 0) else none) else (bif Nat.beq pc 588 then some (.iadd, 589, 0, 0, 0, 0) else none))))) else (bif Nat.ble pc 593 then (bif Nat.ble pc 590 then (bif Nat.ble pc 589 then (bif Nat.beq pc 589 then some (.iaload, 590, 0, 0, 0, 0) else none) else (bif Nat.beq pc 590 then some (.aload_n 0, 591, 0, 0, 0, 0) else none)) else (bif Nat.ble pc 591 then (bif Nat.beq pc 591 then some (.iload_n 3, 592, 0, 0, 0, 0) else none) else (bif Nat.ble pc 592 then (bif Nat.beq pc 592 then some (.iconst 2, 593, 0, 0, 0, 0) else none) else (bif Nat.beq pc 593 then some (.iadd, 594, 0, 0, 0, 0) else none)))) else (bif Nat.ble pc 595 then (bif Nat.ble pc 594 then (bif Nat.beq pc 594 then some (.iaload, 595, 0, 0, 0, 0) else none) else (bif Nat.beq pc 595 then some (.invokevirtual 83, 598, 6, 67, 3, 527) else none)) else (bif Nat.ble pc 598 then (bif Nat.beq pc 598 then some (.aload_n 2, 599, 0, 0, 0, 0) else none) else (bif Nat.ble pc 599 then (bif Nat.beq pc 599 then some (.aload_n 0, 600, 0, 0, 0, 0) else none) else (bif Nat.beq pc 600 then some (.iload_n 3, 601, 0, 0, 0, 0) else none)))))) else (bif Nat.ble pc 612 then (bif Nat.ble pc 605 then (bif Nat.ble pc 602 then (bif Nat.ble pc 601 then (bif Nat.beq pc 601 then some (.iconst 1, 602, 0, 0, 0, 0) else none) else (bif Nat.beq pc 602 then some (.iadd, 603, 0, 0, 0, 0) else none)) else (bif Nat.ble pc 603 then (bif Nat.beq pc 603 then some (.iaload, 604, 0, 0, 0, 0) else none) else (bif Nat.ble pc 604 then (bif Nat.beq pc 604 then some (.aload_n 0, 605, 0, 0, 0, 0) else none) else (bif Nat.beq pc 605 then some (.iload_n 3, 606, 0, 0, 0, 0) else none)))) else (bif Nat.ble pc 607 then (bif Nat.ble pc 606 then (bif Nat.beq pc 606 then some (.iconst 2, 607, 0, 0, 0, 0) else none) else (bif Nat.beq pc 607 then some (.iadd, 608, 0, 0, 0, 0) else none)) else (bif Nat.ble pc 608 then (bif Nat.beq pc 608 then some (.iaload, 609, 0, 0, 0, 0) else none) else (bif Nat.ble pc 609 then (bif Nat.beq pc 609 then some (.invokevirtual 86, 612, 7, 126, 3, 793) else none) else (bif Nat.beq pc 612 then some (.if_icmp .eq 289, 615, 901, 0, 0, 0) else none))))) else (bif Nat.ble pc 619 then (bif Nat.ble pc 616 then (bif Nat.ble pc 615 then (bif Nat.beq pc 615 then some (.iconst 0, 616, 0, 0, 0, 0) else none) else (bif Nat.beq pc 616 then some (.ireturn, 617, 0, 0, 1, 0) else none)) else (bif Nat.ble pc 617 then (bif Nat.beq pc 617 then some (.aload_n 1, 618, 0, 0, 0, 0) else none) else (bif Nat.ble pc 618 then (bif Nat.beq pc 618 then some (.aload_n 0, 619, 0, 0, 0, 0) else none) else (bif Nat.beq pc 619 then some (.iload_n 3, 620, 0, 0, 0, 0) else none)))) else (bif Nat.ble pc 621 then (bif Nat.ble pc 620 then (bif Nat.beq pc 620 then some (.iconst 1, 621, 0, 0, 0, 0) else none) else (bif Nat.beq pc 621 then some (.iadd, 622, 0, 0, 0, 0) else none)) else (bif Nat.ble pc 622 then (bif Nat.beq pc 622 then some (.iaload, 623, 0, 0, 0, 0) else none) else (bif Nat.ble pc 623 then (bif Nat.beq pc 623 then some (.aload_n 0, 624, 0, 0, 0, 0) else none) else (bif Nat.beq pc 624 then some (.iload_n 3, 625, 0, 0, 0, 0) else none)))))))) else (bif Nat.ble pc 670 then (bif Nat.ble pc 649 then (bif Nat.ble pc 635 then (bif Nat.ble pc 628 then (bif Nat.ble pc 626 then (bif Nat.ble pc 625 then (bif Nat.beq pc 625 then some (.iconst 2, 626, 0, 0, 0, 0) else none) else (bif Nat.beq pc 626 then some (.iadd, 627, 0, 0, 0, 0) else none)) else (bif Nat.ble pc 627 then (bif Nat.beq pc 627 then some (.iaload, 628, 0, 0, 0, 0) else none) else (bif Nat.beq pc 628 then some (.invokevirtual 87, 631, 6, 68, 3, 532) else none))) else (bif Nat.ble pc 632 then (bif Nat.ble pc 631 then (bif Nat.beq pc 631 then some (.aload_n 2, 632, 0, 0, 0, 0) else none) else (bif Nat.beq pc 632 then some (.aload_n 0, 633, 0, 0, 0, 0) else none)) else (bif Nat.ble pc 633 then (bif Nat.beq pc 633 then some (.iload_n 3, 634, 0, 0, 0, 0) else none) else (bif Nat.ble pc 634 then (bif Nat.beq pc 634 then some (.iconst 1, 635, 0, 0, 0, 0) else none) else (bif Nat.beq pc 635 then some (.iadd, 636, 0, 0, 0, 0) else none))))) else (bif Nat.ble pc 640 then (bif Nat.ble pc 637 then (bif Nat.ble pc 636 then (bif Nat.beq pc 636 then some (.iaload, 637, 0, 0, 0, 0) else none) else (bif Nat.beq pc 637 then some (.aload_n 0, 638, 0, 0, 0, 0) else none)) else (bif Nat.ble pc 638 then (bif Nat.beq pc 638 then some (.iload_n 3, 639, 0, 0, 0, 0) else none) else (bif Nat.ble pc 639 then (bif Nat.beq pc 639 then some (.iconst 2, 640, 0, 0, 0, 0) else none) else (bif Nat.beq pc 640 then some (.iadd, 641, 0, 0, 0, 0) else none)))) else (bif Nat.ble pc 642 then (bif Nat.ble pc 641 then (bif Nat.beq pc 641 then some (.iaload, 642, 0, 0, 0, 0) else none) else (bif Nat.beq pc 642 then some (.invokevirtual 90, 645, 7, 129, 3, 797) else none)) else (bif Nat.ble pc 645 then (bif Nat.beq pc 645 then some (.if_icmp .eq 256, 648, 901, 0, 0, 0) else none) else (bif Nat.ble pc 648 then (bif Nat.beq pc 648 then some (.iconst 0, 649, 0, 0, 0, 0) else none) else (bif Nat.beq pc 649 then some (.ireturn, 650, 0, 0, 1, 0) else none)))))) else (bif Nat.ble pc 658 then (bif Nat.ble pc 653 then (bif Nat.ble pc 651 then (bif Nat.ble pc 650 then (bif Nat.beq pc 650 then some (.aload_n 1, 651, 0, 0, 0, 0) else none) else (bif Nat.beq pc 651 then some (.aload_n 0, 652, 0, 0, 0, 0) else none)) else (bif Nat.ble pc 652 then (bif Nat.beq pc 652 then some (.iload_n 3, 653, 0, 0, 0, 0) else none) else (bif Nat.beq pc 653 then some (.iconst 1, 654, 0, 0, 0, 0) else none))) else (bif Nat.ble pc 655 then (bif Nat.ble pc 654 then (bif Nat.beq pc 654 then some (.iadd, 655, 0, 0, 0, 0) else none) else (bif Nat.beq pc 655 then some (.iaload, 656, 0, 0, 0, 0) else none)) else (bif Nat.ble pc 656 then (bif Nat.beq pc 656 then some (.aload_n 0, 657, 0, 0, 0, 0) else none) else (bif Nat.ble pc 657 then (bif Nat.beq pc 657 then some (.iload_n 3, 658, 0, 0, 0, 0) else none) else (bif Nat.beq pc 658 then some (.iconst 2, 659, 0, 0, 0, 0) else none))))) else (bif Nat.ble pc 663 then (bif Nat.ble pc 660 then (bif Nat.ble pc 659 then (bif Nat.beq pc 659 then some (.iadd, 660, 0, 0, 0, 0) else none) else (bif Nat.beq pc 660 then some (.iaload, 661, 0, 0, 0, 0) else none)) else (bif Nat.ble pc 661 then (bif Nat.beq pc 661 then some (.aload_n 0, 662, 0, 0, 0, 0) else none) else (bif Nat.ble pc 662 then (bif Nat.beq pc 662 then some (.iload_n 3, 663, 0, 0, 0, 0) else none) else (bif Nat.beq pc 663 then some (.iconst 3, 664, 0, 0, 0, 0) else none)))) else (bif Nat.ble pc 665 then (bif Nat.ble pc 664 then (bif Nat.beq pc 664 then some (.iadd, 665, 0, 0, 0, 0) else none) else (bif Nat.beq pc 665 then some (.iaload, 666, 0, 0, 0, 0) else none)) else (bif Nat.ble pc 666 then (bif Nat.beq pc 666 then some (.invokevirtual 91, 669, 6, 69, 4, 550) else none) else (bif Nat.ble pc 669 then (bif Nat.beq pc 669 then some (.aload_n 2, 670, 0, 0, 0, 0) else none) else (bif Nat.beq pc 670 then some (.aload_n 0, 671, 0, 0, 0, 0) else none))))))) else (bif Nat.ble pc 693 then (bif Nat.ble pc 679 then (bif Nat.ble pc 674 then (bif Nat.ble pc 672 then (bif Nat.ble pc 671 then (bif Nat.beq pc 671 then some (.iload_n 3, 672, 0, 0, 0, 0) else none) else (bif Nat.beq pc 672 then some (.iconst 1, 673, 0, 0, 0, 0) else none)) else (bif Nat.ble pc 673 then (bif Nat.beq pc 673 then some (.iadd, 674, 0, 0, 0, 0) else none) else (bif Nat.beq pc 674 then some (.iaload, 675, 0, 0, 0, 0) else none))) else (bif Nat.ble pc 676 then (bif Nat.ble pc 675 then (bif Nat.beq pc 675 then some (.aload_n 0, 676, 0, 0, 0, 0) else none) else (bif Nat.beq pc 676 then some (.iload_n 3, 677, 0, 0, 0, 0) else none)) else (bif Nat.ble pc 677 then (bif Nat.beq pc 677 then some (.iconst 2, 678, 0, 0, 0, 0) else none) else (bif Nat.ble pc 678 then (bif Nat.beq pc 678 then some (.iadd, 679, 0, 0, 0, 0) else none) else (bif Nat.beq pc 679 then some (.iaload, 680, 0, 0, 0, 0) else none))))) else (bif Nat.ble pc 684 then (bif Nat.ble pc 681 then (bif Nat.ble pc 680 then (bif Nat.beq pc 680 then some (.aload_n 0, 681, 0, 0, 0, 0) else none) else (bif Nat.beq pc 681 then some (.iload_n 3, 682, 0, 0, 0, 0) else none)) else (bif Nat.ble pc 682 then (bif Nat.beq pc 682 then some (.iconst 3, 683, 0, 0, 0, 0) else none) else (bif Nat.ble pc 683 then (bif Nat.beq pc 683 then some (.iadd, 684, 0, 0, 0, 0) else none) else (bif Nat.beq pc 684 then some (.iaload, 685, 0, 0, 0, 0) else none)))) else (bif Nat.ble pc 688 then (bif Nat.ble pc 685 then (bif Nat.beq pc 685 then some (.invokevirtual 94, 688, 7, 130, 4, 813) else none) else (bif Nat.beq pc 688 then some (.if_icmp .eq 213, 691, 901, 0, 0, 0) else none)) else (bif Nat.ble pc 691 then (bif Nat.beq pc 691 then some (.iconst 0, 692, 0, 0, 0, 0) else none) else (bif Nat.ble pc 692 then (bif Nat.beq pc 692 then some (.ireturn, 693, 0, 0, 1, 0) else none) else (bif Nat.beq pc 693 then some (.aload_n 1, 694, 0, 0, 0, 0) else none)))))) else (bif Nat.ble pc 703 then (bif Nat.ble pc 698 then (bif Nat.ble pc 695 then (bif Nat.ble pc 694 then (bif Nat.beq pc 694 then some (.aload_n 0, 695, 0, 0, 0, 0) else none) else (bif Nat.beq pc 695 then some (.iload_n 3, 696, 0, 0, 0, 0) else none)) else (bif Nat.ble pc 696 then (bif Nat.beq pc 696 then some (.iconst 1, 697, 0, 0, 0, 0) else none) else (bif Nat.ble pc 697 then (bif Nat.beq pc 697 then some (.iadd, 698, 0, 0, 0, 0) else none) else (bif Nat.beq pc 698 then some (.iaload, 699, 0, 0, 0, 0) else none)))) else (bif Nat.ble pc 700 then (bif Nat.ble pc 699 then (bif Nat.beq pc 699 then some (.aload_n 0, 700, 0, 0, 0, 0) else none) else (bif Nat.beq pc 700 then some (.iload_n 3, 701, 0, 0, 0, 0) else none)) else (bif Nat.ble pc 701 then (bif Nat.beq pc 701 then some (.iconst 2, 702, 0, 0, 0, 0) else none) else (bif Nat.ble pc 702 then (bif Nat.beq pc 702 then some (.iadd, 703, 0, 0, 0, 0) else none) else (bif Nat.beq pc 703 then some (.iaload, 704, 0, 0, 0, 0) else none))))) else (bif Nat.ble pc 710 then (bif Nat.ble pc 707 then (bif Nat.ble pc 704 then (bif Nat.beq pc 704 then some (.invokevirtual 95, 707, 6, 70, 3, 554) else none) else (bif Nat.beq pc 707 then some (.aload_n 2, 708, 0, 0, 0, 0) else none)) else (bif Nat.ble pc 708 then (bif Nat.beq pc 708 then some (.aload_n 0, 709, 0, 0, 0, 0) else none) else (bif Nat.ble pc 709 then (bif Nat.beq pc 709 then some (.iload_n 3, 710, 0, 0, 0, 0) else none) else (bif Nat.beq pc 710 then some (.iconst 1, 711, 0, 0, 0, 0) else none)))) else (bif Nat.ble pc 712 then (bif Nat.ble pc 711 then (bif Nat.beq pc 711 then some (.iadd, 712, 0, 0, 0, 0) else none) else (bif Nat.beq pc 712 then some (.iaload, 713, 0, 0, 0, 0) else none)) else (bif Nat.ble pc 713 then (bif Nat.beq pc 713 then some (.aload_n 0, 714, 0, 0, 0, 0) else none) else (bif Nat.ble pc 714 then (bif Nat.beq pc 714 then some (.iload_n 3, 715, 0, 0, 0, 0) else none) else (bif Nat.beq pc 715 then some (.iconst 2, 716, 0, 0, 0, 0) else none))))))))) else (bif Nat.ble pc 804 then (bif Nat.ble pc 763 then (bif Nat.ble pc 740 then (bif Nat.ble pc 728 then (bif Nat.ble pc 721 then (bif Nat.ble pc 717 then (bif Nat.ble pc 716 then (bif Nat.beq pc 716 then some (.iadd, 717, 0, 0, 0, 0) else none) else (bif Nat.beq pc 717 then some (.iaload, 718, 0, 0, 0, 0) else none)) else (bif Nat.ble pc 718 then (bif Nat.beq pc 718 then some (.invokevirtual 98, 721, 7, 132, 3, 817) else none) else (bif Nat.beq pc 721 then some (.if_icmp .eq 180, 724, 901, 0, 0, 0) else none))) else (bif Nat.ble pc 725 then (bif Nat.ble pc 724 then (bif Nat.beq pc 724 then some (.iconst 0, 725, 0, 0, 0, 0) else none) else (bif Nat.beq pc 725 then some (.ireturn, 726, 0, 0, 1, 0) else none)) else (bif Nat.ble pc 726 then (bif Nat.beq pc 726 then some (.aload_n 1, 727, 0, 0, 0, 0) else none) else (bif Nat.ble pc 727 then (bif Nat.beq pc 727 then some (.aload_n 0, 728, 0, 0, 0, 0) else none) else (bif Nat.beq pc 728 then some (.iload_n 3, 729, 0, 0, 0, 0) else none))))) else (bif Nat.ble pc 733 then (bif Nat.ble pc 730 then (bif Nat.ble pc 729 then (bif Nat.beq pc 729 then some (.iconst 1, 730, 0, 0, 0, 0) else none) else (bif Nat.beq pc 730 then some (.iadd, 731, 0, 0, 0, 0) else none)) else (bif Nat.ble pc 731 then (bif Nat.beq pc 731 then some (.iaload, 732, 0, 0, 0, 0) else none) else (bif Nat.ble pc 732 then (bif Nat.beq pc 732 then some (.aload_n 0, 733, 0, 0, 0, 0) else none) else (bif Nat.beq pc 733 then some (.iload_n 3, 734, 0, 0, 0, 0) else none)))) else (bif Nat.ble pc 735 then (bif Nat.ble pc 734 then (bif Nat.beq pc 734 then some (.iconst 2, 735, 0, 0, 0, 0) else none) else (bif Nat.beq pc 735 then some (.iadd, 736, 0, 0, 0, 0) else none)) else (bif Nat.ble pc 736 then (bif Nat.beq pc 736 then some (.iaload, 737, 0, 0, 0, 0) else none) else (bif Nat.ble pc 737 then (bif Nat.beq pc 737 then some (.invokevirtual 99, 740, 6, 71, 3, 562) else none) else (bif Nat.beq pc 740 then some (.aload_n 2, 741, 0, 0, 0, 0) else none)))))) else (bif Nat.ble pc 749 then (bif Nat.ble pc 744 then (bif Nat.ble pc 742 then (bif Nat.ble pc 741 then (bif Nat.beq pc 741 then some (.aload_n 0, 742, 0, 0, 0, 0) else none) else (bif Nat.beq pc 742 then some (.iload_n 3, 743, 0, 0, 0, 0) else none)) else (bif Nat.ble pc 743 then (bif Nat.beq pc 743 then some (.iconst 1, 744, 0, 0, 0, 0) else none) else (bif Nat.beq pc 744 then some (.iadd, 745, 0, 0, 0, 0) else none))) else (bif Nat.ble pc 746 then (bif Nat.ble pc 745 then (bif Nat.beq pc 745 then some (.iaload, 746, 0, 0, 0, 0) else none) else (bif Nat.beq pc 746 then some (.aload_n 0, 747, 0, 0, 0, 0) else none)) else (bif Nat.ble pc 747 then (bif Nat.beq pc 747 then some (.iload_n 3, 748, 0, 0, 0, 0) else none) else (bif Nat.ble pc 748 then (bif Nat.beq pc 748 then some (.iconst 2, 749, 0, 0, 0, 0) else none) else (bif Nat.beq pc 749 then some (.iadd, 750, 0, 0, 0, 0) else none))))) else (bif Nat.ble pc 758 then (bif Nat.ble pc 751 then (bif Nat.ble pc 750 then (bif Nat.beq pc 750 then some (.iaload, 751, 0, 0, 0, 0) else none) else (bif Nat.beq pc 751 then some (.invokevirtual 102, 754, 7, 133, 3, 825) else none)) else (bif Nat.ble pc 754 then (bif Nat.beq pc 754 then some (.if_icmp .eq 147, 757, 901, 0, 0, 0) else none) else (bif Nat.ble pc 757 then (bif Nat.beq pc 757 then some (.iconst 0, 758, 0, 0, 0, 0) else none) else (bif Nat.beq pc 758 then some (.ireturn, 759, 0, 0, 1, 0) else none)))) else (bif Nat.ble pc 760 then (bif Nat.ble pc 759 then (bif Nat.beq pc 759 then some (.aload_n 1, 760, 0, 0, 0, 0) else none) else (bif Nat.beq pc 760 then some (.aload_n 0, 761, 0, 0, 0, 0) else none)) else (bif Nat.ble pc 761 then (bif Nat.beq pc 761 then some (.iload_n 3, 762, 0, 0, 0, 0) else none) else (bif Nat.ble pc 762 then (bif Nat.beq pc 762 then some (.iconst 1, 763, 0, 0, 0, 0) else none) else (bif Nat.beq pc 763 then some (.iadd, 764, 0, 0, 0, 0) else none))))))) else (bif Nat.ble pc 784 then (bif Nat.ble pc 772 then (bif Nat.ble pc 767 then (bif Nat.ble pc 765 then (bif Nat.ble pc 764 then (bif Nat.beq pc 764 then some (.iaload, 765, 0, 0, 0, 0) else none) else (bif Nat.beq pc 765 then some (.aload_n 0, 766, 0, 0, 0, 0) else none)) else (bif Nat.ble pc 766 then (bif Nat.beq pc 766 then some (.iload_n 3, 767, 0, 0, 0, 0) else none) else (bif Nat.beq pc 767 then some (.iconst 2, 768, 0, 0, 0, 0) else none))) else (bif Nat.ble pc 769 then (bif Nat.ble pc 768 then (bif Nat.beq pc 768 then some (.iadd, 769, 0, 0, 0, 0) else none) else (bif Nat.beq pc 769 then some (.iaload, 770, 0, 0, 0, 0) else none)) else (bif Nat.ble pc 770 then (bif Nat.beq pc 770 then some (.aload_n 0, 771, 0, 0, 0, 0) else none) else (bif Nat.ble pc 771 then (bif Nat.beq pc 771 then some (.iload_n 3, 772, 0, 0, 0, 0) else none) else (bif Nat.beq pc 772 then some (.iconst 3, 773, 0, 0, 0, 0) else none))))) else (bif Nat.ble pc 777 then (bif Nat.ble pc 774 then (bif Nat.ble pc 773 then (bif Nat.beq pc 773 then some (.iadd, 774, 0, 0, 0, 0) else none) else (bif Nat.beq pc 774 then some (.iaload, 775, 0, 0, 0, 0) else none)) else (bif Nat.ble pc 775 then (bif Nat.beq pc 775 then some (.aload_n 0, 776, 0, 0, 0, 0) else none) else (bif Nat.ble pc 776 then (bif Nat.beq pc 776 then some (.iload_n 3, 777, 0, 0, 0, 0) else none) else (bif Nat.beq pc 777 then some (.iconst 4, 778, 0, 0, 0, 0) else none)))) else (bif Nat.ble pc 779 then (bif Nat.ble pc 778 then (bif Nat.beq pc 778 then some (.iadd, 779, 0, 0, 0, 0) else none) else (bif Nat.beq pc 779 then some (.iaload, 780, 0, 0, 0, 0) else none)) else (bif Nat.ble pc 780 then (bif Nat.beq pc 780 then some (.invokevirtual 103, 783, 6, 72, 5, 566) else none) else (bif Nat.ble pc 783 then (bif Nat.beq pc 783 then some (.aload_n 2, 784, 0, 0, 0, 0) else none) else (bif Nat.beq pc 784 then some (.aload_n 0, 785, 0, 0, 0, 0) else none)))))) else (bif Nat.ble pc 794 then (bif Nat.ble pc 789 then (bif Nat.ble pc 786 then (bif Nat.ble pc 785 then (bif Nat.beq pc 785 then some (.iload_n 3, 786, 0, 0, 0, 0) else none) else (bif Nat.beq pc 786 then some (.iconst 1, 787, 0, 0, 0, 0) else none)) else (bif Nat.ble pc 787 then (bif Nat.beq pc 787 then some (.iadd, 788, 0, 0, 0, 0) else none) else (bif Nat.ble pc 788 then (bif Nat.beq pc 788 then some (.iaload, 789, 0, 0, 0, 0) else none) else (bif Nat.beq pc 789 then some (.aload_n 0, 790, 0, 0, 0, 0) else none)))) else (bif Nat.ble pc 791 then (bif Nat.ble pc 790 then (bif Nat.beq pc 790 then some (.iload_n 3, 791, 0, 0, 0, 0) else none) else (bif Nat.beq pc 791 then some (.iconst 2, 792, 0, 0, 0, 0) else none)) else (bif Nat.ble pc 792 then (bif Nat.beq pc 792 then some (.iadd, 793, 0, 0, 0, 0) else none) else (bif Nat.ble pc 793 then (bif Nat.beq pc 793 then some (.iaload, 794, 0, 0, 0, 0) else none) else (bif Nat.beq pc 794 then some (.aload_n 0, 795, 0, 0, 0, 0) else none))))) else (bif Nat.ble pc 799 then (bif Nat.ble pc 796 then (bif Nat.ble pc 795 then (bif Nat.beq pc 795 then some (.iload_n 3, 796, 0, 0, 0, 0) else none) else (bif Nat.beq pc 796 then some (.iconst 3, 797, 0, 0, 0, 0) else none)) else (bif Nat.ble pc 797 then (bif Nat.beq pc 797 then some (.iadd, 798, 0, 0, 0, 0) else none) else (bif Nat.ble pc 798 then (bif Nat.beq pc 798 then some (.iaload, 799, 0, 0, 0, 0) else none) else (bif Nat.beq pc 799 then some (.aload_n 0, 800, 0, 0, 0, 0) else none)))) else (bif Nat.ble pc 801 then (bif Nat.ble pc 800 then (bif Nat.beq pc 800 then some (.iload_n 3, 801, 0, 0, 0, 0) else none) else (bif Nat.beq pc 801 then some (.iconst 4, 802, 0, 0, 0, 0) else none)) else (bif Nat.ble pc 802 then (bif Nat.beq pc 802 then some (.iadd, 803, 0, 0, 0, 0) else none) else (bif Nat.ble pc 803 then (bif Nat.beq pc 803 then some (.iaload, 804, 0, 0, 0, 0) else none) else (bif Nat.beq pc 804 then some (.invokevirtual 107, 807, 7, 135, 5, 829) else none)))))))) else (bif Nat.ble pc 853 then (bif Nat.ble pc 829 then (bif Nat.ble pc 817 then (bif Nat.ble pc 812 then (bif Nat.ble pc 810 then (bif Nat.ble pc 807 then (bif Nat.beq pc 807 then some (.if_icmp .eq 94, 810, 901, 0, 0, 0) else none) else (bif Nat.beq pc 810 then some (.iconst 0, 811, 0, 0, 0, 0) else none)) else (bif Nat.ble pc 811 then (bif Nat.beq pc 811 then some (.ireturn, 812, 0, 0, 1, 0) else none) else (bif Nat.beq pc 812 then some (.aload_n 1, 813, 0, 0, 0, 0) else none))) else (bif Nat.ble pc 814 then (bif Nat.ble pc 813 then (bif Nat.beq pc 813 then some (.aload_n 0, 814, 0, 0, 0, 0) else none) else (bif Nat.beq pc 814 then some (.iload_n 3, 815, 0, 0, 0, 0) else none)) else (bif Nat.ble pc 815 then (bif Nat.beq pc 815 then some (.iconst 1, 816, 0, 0, 0, 0) else none) else (bif Nat.ble pc 816 then (bif Nat.beq pc 816 then some (.iadd, 817, 0, 0, 0, 0) else none) else (bif Nat.beq pc 817 then some (.iaload, 818, 0, 0, 0, 0) else none))))) else (bif Nat.ble pc 822 then (bif Nat.ble pc 819 then (bif Nat.ble pc 818 then (bif Nat.beq pc 818 then some (.aload_n 0, 819, 0, 0, 0, 0) else none) else (bif Nat.beq pc 819 then some (.iload_n 3, 820, 0, 0, 0, 0) else none)) else (bif Nat.ble pc 820 then (bif Nat.beq pc 820 then some (.iconst 2, 821, 0, 0, 0, 0) else none) else (bif Nat.ble pc 821 then (bif Nat.beq pc 821 then some (.iadd, 822, 0, 0, 0, 0) else none) else (bif Nat.beq pc 822 then some (.iaload, 823, 0, 0, 0, 0) else none)))) else (bif Nat.ble pc 826 then (bif Nat.ble pc 823 then (bif Nat.beq pc 823 then some (.invokevirtual 108, 826, 6, 73, 3, 571) else none) else (bif Nat.beq pc 826 then some (.aload_n 2, 827, 0, 0, 0, 0) else none)) else (bif Nat.ble pc 827 then (bif Nat.beq pc 827 then some (.aload_n 0, 828, 0, 0, 0, 0) else none) else (bif Nat.ble pc 828 then (bif Nat.beq pc 828 then some (.iload_n 3, 829, 0, 0, 0, 0) else none) else (bif Nat.beq pc 829 then some (.iconst 1, 830, 0, 0, 0, 0) else none)))))) else (bif Nat.ble pc 843 then (bif Nat.ble pc 834 then (bif Nat.ble pc 831 then (bif Nat.ble pc 830 then (bif Nat.beq pc 830 then some (.iadd, 831, 0, 0, 0, 0) else none) else (bif Nat.beq pc 831 then some (.iaload, 832, 0, 0, 0, 0) else none)) else (bif Nat.ble pc 832 then (bif Nat.beq pc 832 then some (.aload_n 0, 833, 0, 0, 0, 0) else none) else (bif Nat.ble pc 833 then (bif Nat.beq pc 833 then some (.iload_n 3, 834, 0, 0, 0, 0) else none) else (bif Nat.beq pc 834 then some (.iconst 2, 835, 0, 0, 0, 0) else none)))) else (bif Nat.ble pc 836 then (bif Nat.ble pc 835 then (bif Nat.beq pc 835 then some (.iadd, 836, 0, 0, 0, 0) else none) else (bif Nat.beq pc 836 then some (.iaload, 837, 0, 0, 0, 0) else none)) else (bif Nat.ble pc 837 then (bif Nat.beq pc 837 then some (.invokevirtual 111, 840, 7, 136, 3, 837) else none) else (bif Nat.ble pc 840 then (bif Nat.beq pc 840 then some (.if_icmp .eq 61, 843, 901, 0, 0, 0) else none) else (bif Nat.beq pc 843 then some (.iconst 0, 844, 0, 0, 0, 0) else none))))) else (bif Nat.ble pc 848 then (bif Nat.ble pc 845 then (bif Nat.ble pc 844 then (bif Nat.beq pc 844 then some (.ireturn, 845, 0, 0, 1, 0) else none) else (bif Nat.beq pc 845 then some (.aload_n 1, 846, 0, 0, 0, 0) else none)) else (bif Nat.ble pc 846 then (bif Nat.beq pc 846 then some (.aload_n 0, 847, 0, 0, 0, 0) else none) else (bif Nat.ble pc 847 then (bif Nat.beq pc 847 then some (.iload_n 3, 848, 0, 0, 0, 0) else none) else (bif Nat.beq pc 848 then some (.iconst 1, 849, 0, 0, 0, 0) else none)))) else (bif Nat.ble pc 850 then (bif Nat.ble pc 849 then (bif Nat.beq pc 849 then some (.iadd, 850, 0, 0, 0, 0) else none) else (bif Nat.beq pc 850 then some (.iaload, 851, 0, 0, 0, 0) else none)) else (bif Nat.ble pc 851 then (bif Nat.beq pc 851 then some (.aload_n 0, 852, 0, 0, 0, 0) else none) else (bif Nat.ble pc 852 then (bif Nat.beq pc 852 then some (.iload_n 3, 853, 0, 0, 0, 0) else none) else (bif Nat.beq pc 853 then some (.iconst 2, 854, 0, 0, 0, 0) else none))))))) else (bif Nat.ble pc 878 then (bif Nat.ble pc 864 then (bif Nat.ble pc 859 then (bif Nat.ble pc 855 then (bif Nat.ble pc 854 then (bif Nat.beq pc 854 then some (.iadd, 855, 0, 0, 0, 0) else none) else (bif Nat.beq pc 855 then some (.iaload, 856, 0, 0, 0, 0) else none)) else (bif Nat.ble pc 856 then (bif Nat.beq pc 856 then some (.invokevirtual 112, 859, 6, 74, 3, 575) else none) else (bif Nat.beq pc 859 then some (.aload_n 2, 860, 0, 0, 0, 0) else none))) else (bif Nat.ble pc 861 then (bif Nat.ble pc 860 then (bif Nat.beq pc 860 then some (.aload_n 0, 861, 0, 0, 0, 0) else none) else (bif Nat.beq pc 861 then some (.iload_n 3, 862, 0, 0, 0, 0) else none)) else (bif Nat.ble pc 862 then (bif Nat.beq pc 862 then some (.iconst 1, 863, 0, 0, 0, 0) else none) else (bif Nat.ble pc 863 then (bif Nat.beq pc 863 then some (.iadd, 864, 0, 0, 0, 0) else none) else (bif Nat.beq pc 864 then some (.iaload, 865, 0, 0, 0, 0) else none))))) else (bif Nat.ble pc 869 then (bif Nat.ble pc 866 then (bif Nat.ble pc 865 then (bif Nat.beq pc 865 then some (.aload_n 0, 866, 0, 0, 0, 0) else none) else (bif Nat.beq pc 866 then some (.iload_n 3, 867, 0, 0, 0, 0) else none)) else (bif Nat.ble pc 867 then (bif Nat.beq pc 867 then some (.iconst 2, 868, 0, 0, 0, 0) else none) else (bif Nat.ble pc 868 then (bif Nat.beq pc 868 then some (.iadd, 869, 0, 0, 0, 0) else none) else (bif Nat.beq pc 869 then some (.iaload, 870, 0, 0, 0, 0) else none)))) else (bif Nat.ble pc 873 then (bif Nat.ble pc 870 then (bif Nat.beq pc 870 then some (.invokevirtual 115, 873, 7, 137, 3, 841) else none) else (bif Nat.beq pc 873 then some (.if_icmp .eq 28, 876, 901, 0, 0, 0) else none)) else (bif Nat.ble pc 876 then (bif Nat.beq pc 876 then some (.iconst 0, 877, 0, 0, 0, 0) else none) else (bif Nat.ble pc 877 then (bif Nat.beq pc 877 then some (.ireturn, 878, 0, 0, 1, 0) else none) else (bif Nat.beq pc 878 then some (.aload_n 1, 879, 0, 0, 0, 0) else none)))))) else (bif Nat.ble pc 890 then (bif Nat.ble pc 883 then (bif Nat.ble pc 880 then (bif Nat.ble pc 879 then (bif Nat.beq pc 879 then some (.aload_n 0, 880, 0, 0, 0, 0) else none) else (bif Nat.beq pc 880 then some (.iload_n 3, 881, 0, 0, 0, 0) else none)) else (bif Nat.ble pc 881 then (bif Nat.beq pc 881 then some (.iconst 1, 882, 0, 0, 0, 0) else none) else (bif Nat.ble pc 882 then (bif Nat.beq pc 882 then some (.iadd, 883, 0, 0, 0, 0) else none) else (bif Nat.beq pc 883 then some (.iaload, 884, 0, 0, 0, 0) else none)))) else (bif Nat.ble pc 887 then (bif Nat.ble pc 884 then (bif Nat.beq pc 884 then some (.invokevirtual 116, 887, 6, 75, 2, 585) else none) else (bif Nat.beq pc 887 then some (.aload_n 2, 888, 0, 0, 0, 0) else none)) else (bif Nat.ble pc 888 then (bif Nat.beq pc 888 then some (.aload_n 0, 889, 0, 0, 0, 0) else none) else (bif Nat.ble pc 889 then (bif Nat.beq pc 889 then some (.iload_n 3, 890, 0, 0, 0, 0) else none) else (bif Nat.beq pc 890 then some (.iconst 1, 891, 0, 0, 0, 0) else none))))) else (bif Nat.ble pc 899 then (bif Nat.ble pc 892 then (bif Nat.ble pc 891 then (bif Nat.beq pc 891 then some (.iadd, 892, 0, 0, 0, 0) else none) else (bif Nat.beq pc 892 then some (.iaload, 893, 0, 0, 0, 0) else none)) else (bif Nat.ble pc 893 then (bif Nat.beq pc 893 then some (.invokevirtual 119, 896, 7, 139, 2, 845) else none) else (bif Nat.ble pc 896 then (bif Nat.beq pc 896 then some (.if_icmp .eq 5, 899, 901, 0, 0, 0) else none) else (bif Nat.beq pc 899 then some (.iconst 0, 900, 0, 0, 0, 0) else none)))) else (bif Nat.ble pc 901 then (bif Nat.ble pc 900 then (bif Nat.beq pc 900 then some (.ireturn, 901, 0, 0, 1, 0) else none) else (bif Nat.beq pc 901 then some (.iinc 3 5, 904, 0, 0, 0, 0) else none)) else (bif Nat.ble pc 904 then (bif Nat.beq pc 904 then some (.goto (-886), 907, 18, 0, 0, 0) else none) else (bif Nat.ble pc 907 then (bif Nat.beq pc 907 then some (.iconst 1, 908, 0, 0, 0, 0) else none) else (bif Nat.beq pc 908 then some (.ireturn, 909, 0, 0, 1, 0) else none)))))))))))
set_option maxRecDepth 100000 in
def fp_k1 (pc : Nat) : Option FpE := (bif Nat.ble pc 27 then (bif Nat.ble pc 14 then (bif Nat.ble pc 5 then (bif Nat.ble pc 1 then (bif Nat.ble pc 0 then (bif Nat.beq pc 0 then some (.aload_n 0, 1, 0, 0, 0, 0) else none) else (bif Nat.beq pc 1 then some (.getfield 21, 4, 0, 0, 2, 189) else none)) else (bif Nat.ble pc 4 then (bif Nat.beq pc 4 then some (.iconst 4, 5, 0, 0, 0, 0) else none) else (bif Nat.beq pc 5 then some (.if_icmp .ne 25, 8, 30, 0, 0, 0) else none))) else (bif Nat.ble pc 9 then (bif Nat.ble pc 8 then (bif Nat.beq pc 8 then some (.aload_n 0, 9, 0, 0, 0, 0) else none) else (bif Nat.beq pc 9 then some (.aload_n 0, 10, 0, 0, 0, 0) else none)) else (bif Nat.ble pc 10 then (bif Nat.beq pc 10 then some (.getfield 17, 13, 0, 0, 1, 188) else none) else (bif Nat.ble pc 13 then (bif Nat.beq pc 13 then some (.iconst 1, 14, 0, 0, 0, 0) else none) else (bif Nat.beq pc 14 then some (.iadd, 15, 0, 0, 0, 0) else none))))) else (bif Nat.ble pc 20 then (bif Nat.ble pc 16 then (bif Nat.ble pc 15 then (bif Nat.beq pc 15 then some (.iconst 4, 16, 0, 0, 0, 0) else none) else (bif Nat.beq pc 16 then some (.irem, 17, 0, 0, 0, 0) else none)) else (bif Nat.ble pc 17 then (bif Nat.beq pc 17 then some (.putfield 17, 20, 0, 0, 1, 188) else none) else (bif Nat.beq pc 20 then some (.aload_n 0, 21, 0, 0, 0, 0) else none))) else (bif Nat.ble pc 22 then (bif Nat.ble pc 21 then (bif Nat.beq pc 21 then some (.dup, 22, 0, 0, 0, 0) else none) else (bif Nat.beq pc 22 then some (.getfield 21, 25, 0, 0, 2, 189) else none)) else (bif Nat.ble pc 25 then (bif Nat.beq pc 25 then some (.iconst 1, 26, 0, 0, 0, 0) else none) else (bif Nat.ble pc 26 then (bif Nat.beq pc 26 then some (.isub, 27, 0, 0, 0, 0) else none) else (bif Nat.beq pc 27 then some (.putfield 21, 30, 0, 0, 2, 189) else none)))))) else (bif Nat.ble pc 44 then (bif Nat.ble pc 35 then (bif Nat.ble pc 31 then (bif Nat.ble pc 30 then (bif Nat.beq pc 30 then some (.aload_n 0, 31, 0, 0, 0, 0) else none) else (bif Nat.beq pc 31 then some (.getfield 11, 34, 0, 0, 0, 187) else none)) else (bif Nat.ble pc 34 then (bif Nat.beq pc 34 then some (.aload_n 0, 35, 0, 0, 0, 0) else none) else (bif Nat.beq pc 35 then some (.getfield 17, 38, 0, 0, 1, 188) else none))) else (bif Nat.ble pc 39 then (bif Nat.ble pc 38 then (bif Nat.beq pc 38 then some (.aload_n 0, 39, 0, 0, 0, 0) else none) else (bif Nat.beq pc 39 then some (.getfield 21, 42, 0, 0, 2, 189) else none)) else (bif Nat.ble pc 42 then (bif Nat.beq pc 42 then some (.iadd, 43, 0, 0, 0, 0) else none) else (bif Nat.ble pc 43 then (bif Nat.beq pc 43 then some (.iconst 4, 44, 0, 0, 0, 0) else none) else (bif Nat.beq pc 44 then some (.irem, 45, 0, 0, 0, 0) else none))))) else (bif Nat.ble pc 51 then (bif Nat.ble pc 46 then (bif Nat.ble pc 45 then (bif Nat.beq pc 45 then some (.aaload, 46, 0, 0, 0, 0) else none) else (bif Nat.beq pc 46 then some (.aload_n 1, 47, 0, 0, 0, 0) else none)) else (bif Nat.ble pc 47 then (bif Nat.beq pc 47 then some (.invokevirtual 25, 50, 4, 34, 2, 268) else none) else (bif Nat.ble pc 50 then (bif Nat.beq pc 50 then some (.aload_n 0, 51, 0, 0, 0, 0) else none) else (bif Nat.beq pc 51 then some (.dup, 52, 0, 0, 0, 0) else none)))) else (bif Nat.ble pc 55 then (bif Nat.ble pc 52 then (bif Nat.beq pc 52 then some (.getfield 21, 55, 0, 0, 2, 189) else none) else (bif Nat.beq pc 55 then some (.iconst 1, 56, 0, 0, 0, 0) else none)) else (bif Nat.ble pc 56 then (bif Nat.beq pc 56 then some (.iadd, 57, 0, 0, 0, 0) else none) else (bif Nat.ble pc 57 then (bif Nat.beq pc 57 then some (.putfield 21, 60, 0, 0, 2, 189) else none) else (bif Nat.beq pc 60 then some (.return_, 61, 0, 0, 0, 0) else none)))))))
set_option maxRecDepth 100000 in
def fp_k2 (pc : Nat) : Option FpE := (bif Nat.ble pc 12 then (bif Nat.ble pc 5 then (bif Nat.ble pc 1 then (bif Nat.ble pc 0 then (bif Nat.beq pc 0 then some (.aload_n 0, 1, 0, 0, 0, 0) else none) else (bif Nat.beq pc 1 then some (.dup, 2, 0, 0, 0, 0) else none)) else (bif Nat.ble pc 2 then (bif Nat.beq pc 2 then some (.getfield 21, 5, 0, 0, 2, 189) else none) else (bif Nat.beq pc 5 then some (.iconst 1, 6, 0, 0, 0, 0) else none))) else (bif Nat.ble pc 7 then (bif Nat.ble pc 6 then (bif Nat.beq pc 6 then some (.isub, 7, 0, 0, 0, 0) else none) else (bif Nat.beq pc 7 then some (.putfield 21, 10, 0, 0, 2, 189) else none)) else (bif Nat.ble pc 10 then (bif Nat.beq pc 10 then some (.aload_n 1, 11, 0, 0, 0, 0) else none) else (bif Nat.ble pc 11 then (bif Nat.beq pc 11 then some (.aload_n 0, 12, 0, 0, 0, 0) else none) else (bif Nat.beq pc 12 then some (.getfield 11, 15, 0, 0, 0, 187) else none))))) else (bif Nat.ble pc 23 then (bif Nat.ble pc 16 then (bif Nat.ble pc 15 then (bif Nat.beq pc 15 then some (.aload_n 0, 16, 0, 0, 0, 0) else none) else (bif Nat.beq pc 16 then some (.getfield 17, 19, 0, 0, 1, 188) else none)) else (bif Nat.ble pc 19 then (bif Nat.beq pc 19 then some (.aload_n 0, 20, 0, 0, 0, 0) else none) else (bif Nat.ble pc 20 then (bif Nat.beq pc 20 then some (.getfield 21, 23, 0, 0, 2, 189) else none) else (bif Nat.beq pc 23 then some (.iadd, 24, 0, 0, 0, 0) else none)))) else (bif Nat.ble pc 25 then (bif Nat.ble pc 24 then (bif Nat.beq pc 24 then some (.iconst 4, 25, 0, 0, 0, 0) else none) else (bif Nat.beq pc 25 then some (.irem, 26, 0, 0, 0, 0) else none)) else (bif Nat.ble pc 26 then (bif Nat.beq pc 26 then some (.aaload, 27, 0, 0, 0, 0) else none) else (bif Nat.ble pc 27 then (bif Nat.beq pc 27 then some (.invokevirtual 25, 30, 4, 34, 2, 268) else none) else (bif Nat.beq pc 30 then some (.return_, 31, 0, 0, 0, 0) else none))))))
set_option maxRecDepth 100000 in
def fp_k3 (pc : Nat) : Option FpE := (bif Nat.ble pc 28 then (bif Nat.ble pc 11 then (bif Nat.ble pc 5 then (bif Nat.ble pc 1 then (bif Nat.ble pc 0 then (bif Nat.beq pc 0 then some (.aload_n 1, 1, 0, 0, 0, 0) else none) else (bif Nat.beq pc 1 then some (.getfield 9, 4, 0, 1, 0, 112) else none)) else (bif Nat.ble pc 4 then (bif Nat.beq pc 4 then some (.iconst 0, 5, 0, 0, 0, 0) else none) else (bif Nat.beq pc 5 then some (.aload_n 0, 6, 0, 0, 0, 0) else none))) else (bif Nat.ble pc 9 then (bif Nat.ble pc 6 then (bif Nat.beq pc 6 then some (.getfield 9, 9, 0, 1, 0, 112) else none) else (bif Nat.beq pc 9 then some (.iconst 0, 10, 0, 0, 0, 0) else none)) else (bif Nat.ble pc 10 then (bif Nat.beq pc 10 then some (.aload_n 0, 11, 0, 0, 0, 0) else none) else (bif Nat.beq pc 11 then some (.getfield 9, 14, 0, 1, 0, 112) else none)))) else (bif Nat.ble pc 19 then (bif Nat.ble pc 15 then (bif Nat.ble pc 14 then (bif Nat.beq pc 14 then some (.arraylength, 15, 0, 0, 0, 0) else none) else (bif Nat.beq pc 15 then some (.invokestatic 25, 18, 0, 900, 0, 288) else none)) else (bif Nat.ble pc 18 then (bif Nat.beq pc 18 then some (.aload_n 1, 19, 0, 0, 0, 0) else none) else (bif Nat.beq pc 19 then some (.getfield 15, 22, 0, 1, 1, 115) else none))) else (bif Nat.ble pc 23 then (bif Nat.ble pc 22 then (bif Nat.beq pc 22 then some (.iconst 0, 23, 0, 0, 0, 0) else none) else (bif Nat.beq pc 23 then some (.aload_n 0, 24, 0, 0, 0, 0) else none)) else (bif Nat.ble pc 24 then (bif Nat.beq pc 24 then some (.getfield 15, 27, 0, 1, 1, 115) else none) else (bif Nat.ble pc 27 then (bif Nat.beq pc 27 then some (.iconst 0, 28, 0, 0, 0, 0) else none) else (bif Nat.beq pc 28 then some (.aload_n 0, 29, 0, 0, 0, 0) else none)))))) else (bif Nat.ble pc 45 then (bif Nat.ble pc 36 then (bif Nat.ble pc 32 then (bif Nat.ble pc 29 then (bif Nat.beq pc 29 then some (.getfield 15, 32, 0, 1, 1, 115) else none) else (bif Nat.beq pc 32 then some (.arraylength, 33, 0, 0, 0, 0) else none)) else (bif Nat.ble pc 33 then (bif Nat.beq pc 33 then some (.invokestatic 25, 36, 0, 900, 0, 288) else none) else (bif Nat.beq pc 36 then some (.aload_n 1, 37, 0, 0, 0, 0) else none))) else (bif Nat.ble pc 40 then (bif Nat.ble pc 37 then (bif Nat.beq pc 37 then some (.getfield 18, 40, 0, 1, 2, 118) else none) else (bif Nat.beq pc 40 then some (.iconst 0, 41, 0, 0, 0, 0) else none)) else (bif Nat.ble pc 41 then (bif Nat.beq pc 41 then some (.aload_n 0, 42, 0, 0, 0, 0) else none) else (bif Nat.ble pc 42 then (bif Nat.beq pc 42 then some (.getfield 18, 45, 0, 1, 2, 118) else none) else (bif Nat.beq pc 45 then some (.iconst 0, 46, 0, 0, 0, 0) else none))))) else (bif Nat.ble pc 51 then (bif Nat.ble pc 47 then (bif Nat.ble pc 46 then (bif Nat.beq pc 46 then some (.aload_n 0, 47, 0, 0, 0, 0) else none) else (bif Nat.beq pc 47 then some (.getfield 18, 50, 0, 1, 2, 118) else none)) else (bif Nat.ble pc 50 then (bif Nat.beq pc 50 then some (.arraylength, 51, 0, 0, 0, 0) else none) else (bif Nat.beq pc 51 then some (.invokestatic 25, 54, 0, 900, 0, 288) else none))) else (bif Nat.ble pc 55 then (bif Nat.ble pc 54 then (bif Nat.beq pc 54 then some (.aload_n 0, 55, 0, 0, 0, 0) else none) else (bif Nat.beq pc 55 then some (.aload_n 1, 56, 0, 0, 0, 0) else none)) else (bif Nat.ble pc 56 then (bif Nat.beq pc 56 then some (.getfield 21, 59, 0, 1, 3, 120) else none) else (bif Nat.ble pc 59 then (bif Nat.beq pc 59 then some (.putfield 21, 62, 0, 1, 3, 120) else none) else (bif Nat.beq pc 62 then some (.return_, 63, 0, 0, 0, 0) else none)))))))
set_option maxRecDepth 100000 in
def fp_k4 (pc : Nat) : Option FpE := (bif Nat.ble pc 6 then (bif Nat.ble pc 1 then (bif Nat.ble pc 0 then (bif Nat.beq pc 0 then some (.iload_n 1, 1, 0, 0, 0, 0) else none) else (bif Nat.beq pc 1 then some (.ifCond .lt 15, 4, 16, 0, 0, 0) else none)) else (bif Nat.ble pc 4 then (bif Nat.beq pc 4 then some (.iload_n 1, 5, 0, 0, 0, 0) else none) else (bif Nat.ble pc 5 then (bif Nat.beq pc 5 then some (.aload_n 0, 6, 0, 0, 0, 0) else none) else (bif Nat.beq pc 6 then some (.getfield 21, 9, 0, 1, 3, 120) else none)))) else (bif Nat.ble pc 12 then (bif Nat.ble pc 9 then (bif Nat.beq pc 9 then some (.if_icmp .ge 7, 12, 16, 0, 0, 0) else none) else (bif Nat.beq pc 12 then some (.iconst 1, 13, 0, 0, 0, 0) else none)) else (bif Nat.ble pc 13 then (bif Nat.beq pc 13 then some (.goto 4, 16, 17, 0, 0, 0) else none) else (bif Nat.ble pc 16 then (bif Nat.beq pc 16 then some (.iconst 0, 17, 0, 0, 0, 0) else none) else (bif Nat.beq pc 17 then some (.ireturn, 18, 0, 0, 1, 0) else none)))))
set_option maxRecDepth 100000 in
def fp_k5 (pc : Nat) : Option FpE := (bif Nat.ble pc 6 then (bif Nat.ble pc 1 then (bif Nat.ble pc 0 then (bif Nat.beq pc 0 then some (.aload_n 0, 1, 0, 0, 0, 0) else none) else (bif Nat.beq pc 1 then some (.getfield 21, 4, 0, 1, 3, 120) else none)) else (bif Nat.ble pc 4 then (bif Nat.beq pc 4 then some (.bipush 12, 6, 0, 0, 0, 0) else none) else (bif Nat.beq pc 6 then some (.if_icmp .lt 7, 9, 13, 0, 0, 0) else none))) else (bif Nat.ble pc 10 then (bif Nat.ble pc 9 then (bif Nat.beq pc 9 then some (.iconst 1, 10, 0, 0, 0, 0) else none) else (bif Nat.beq pc 10 then some (.goto 4, 13, 14, 0, 0, 0) else none)) else (bif Nat.ble pc 13 then (bif Nat.beq pc 13 then some (.iconst 0, 14, 0, 0, 0, 0) else none) else (bif Nat.beq pc 14 then some (.ireturn, 15, 0, 0, 1, 0) else none))))
set_option maxRecDepth 100000 in
def fp_k6 (pc : Nat) : Option FpE := (bif Nat.ble pc 20 then (bif Nat.ble pc 9 then (bif Nat.ble pc 4 then (bif Nat.ble pc 0 then (bif Nat.beq pc 0 then some (.aload_n 0, 1, 0, 0, 0, 0) else none) else (bif Nat.ble pc 1 then (bif Nat.beq pc 1 then some (.getfield 9, 4, 0, 1, 0, 112) else none) else (bif Nat.beq pc 4 then some (.aload_n 0, 5, 0, 0, 0, 0) else none))) else (bif Nat.ble pc 5 then (bif Nat.beq pc 5 then some (.getfield 21, 8, 0, 1, 3, 120) else none) else (bif Nat.ble pc 8 then (bif Nat.beq pc 8 then some (.iload_n 1, 9, 0, 0, 0, 0) else none) else (bif Nat.beq pc 9 then some (.iastore, 10, 0, 0, 0, 0) else none)))) else (bif Nat.ble pc 14 then (bif Nat.ble pc 10 then (bif Nat.beq pc 10 then some (.aload_n 0, 11, 0, 0, 0, 0) else none) else (bif Nat.ble pc 11 then (bif Nat.beq pc 11 then some (.getfield 15, 14, 0, 1, 1, 115) else none) else (bif Nat.beq pc 14 then some (.aload_n 0, 15, 0, 0, 0, 0) else none))) else (bif Nat.ble pc 18 then (bif Nat.ble pc 15 then (bif Nat.beq pc 15 then some (.getfield 21, 18, 0, 1, 3, 120) else none) else (bif Nat.beq pc 18 then some (.iload_n 2, 19, 0, 0, 0, 0) else none)) else (bif Nat.ble pc 19 then (bif Nat.beq pc 19 then some (.iastore, 20, 0, 0, 0, 0) else none) else (bif Nat.beq pc 20 then some (.aload_n 0, 21, 0, 0, 0, 0) else none))))) else (bif Nat.ble pc 31 then (bif Nat.ble pc 25 then (bif Nat.ble pc 21 then (bif Nat.beq pc 21 then some (.getfield 18, 24, 0, 1, 2, 118) else none) else (bif Nat.ble pc 24 then (bif Nat.beq pc 24 then some (.aload_n 0, 25, 0, 0, 0, 0) else none) else (bif Nat.beq pc 25 then some (.getfield 21, 28, 0, 1, 3, 120) else none))) else (bif Nat.ble pc 29 then (bif Nat.ble pc 28 then (bif Nat.beq pc 28 then some (.iload_n 3, 29, 0, 0, 0, 0) else none) else (bif Nat.beq pc 29 then some (.iastore, 30, 0, 0, 0, 0) else none)) else (bif Nat.ble pc 30 then (bif Nat.beq pc 30 then some (.aload_n 0, 31, 0, 0, 0, 0) else none) else (bif Nat.beq pc 31 then some (.dup, 32, 0, 0, 0, 0) else none)))) else (bif Nat.ble pc 36 then (bif Nat.ble pc 32 then (bif Nat.beq pc 32 then some (.getfield 21, 35, 0, 1, 3, 120) else none) else (bif Nat.ble pc 35 then (bif Nat.beq pc 35 then some (.iconst 1, 36, 0, 0, 0, 0) else none) else (bif Nat.beq pc 36 then some (.iadd, 37, 0, 0, 0, 0) else none))) else (bif Nat.ble pc 40 then (bif Nat.ble pc 37 then (bif Nat.beq pc 37 then some (.putfield 21, 40, 0, 1, 3, 120) else none) else (bif Nat.beq pc 40 then some (.aload_n 0, 41, 0, 0, 0, 0) else none)) else (bif Nat.ble pc 41 then (bif Nat.beq pc 41 then some (.getfield 21, 44, 0, 1, 3, 120) else none) else (bif Nat.beq pc 44 then some (.ireturn, 45, 0, 0, 0, 0) else none))))))
set_option maxRecDepth 100000 in
def fp_k7 (pc : Nat) : Option FpE := (bif Nat.ble pc 31 then (bif Nat.ble pc 14 then (bif Nat.ble pc 6 then (bif Nat.ble pc 1 then (bif Nat.ble pc 0 then (bif Nat.beq pc 0 then some (.aload_n 0, 1, 0, 0, 0, 0) else none) else (bif Nat.beq pc 1 then some (.getfield 21, 4, 0, 1, 3, 120) else none)) else (bif Nat.ble pc 4 then (bif Nat.beq pc 4 then some (.iload_n 1, 5, 0, 0, 0, 0) else none) else (bif Nat.ble pc 5 then (bif Nat.beq pc 5 then some (.isub, 6, 0, 0, 0, 0) else none) else (bif Nat.beq pc 6 then some (.iconst 1, 7, 0, 0, 0, 0) else none)))) else (bif Nat.ble pc 9 then (bif Nat.ble pc 7 then (bif Nat.beq pc 7 then some (.isub, 8, 0, 0, 0, 0) else none) else (bif Nat.ble pc 8 then (bif Nat.beq pc 8 then some (.istore_n 2, 9, 0, 0, 0, 0) else none) else (bif Nat.beq pc 9 then some (.aload_n 0, 10, 0, 0, 0, 0) else none))) else (bif Nat.ble pc 10 then (bif Nat.beq pc 10 then some (.getfield 9, 13, 0, 1, 0, 112) else none) else (bif Nat.ble pc 13 then (bif Nat.beq pc 13 then some (.iload_n 1, 14, 0, 0, 0, 0) else none) else (bif Nat.beq pc 14 then some (.iconst 1, 15, 0, 0, 0, 0) else none))))) else (bif Nat.ble pc 21 then (bif Nat.ble pc 16 then (bif Nat.ble pc 15 then (bif Nat.beq pc 15 then some (.iadd, 16, 0, 0, 0, 0) else none) else (bif Nat.beq pc 16 then some (.aload_n 0, 17, 0, 0, 0, 0) else none)) else (bif Nat.ble pc 17 then (bif Nat.beq pc 17 then some (.getfield 9, 20, 0, 1, 0, 112) else none) else (bif Nat.ble pc 20 then (bif Nat.beq pc 20 then some (.iload_n 1, 21, 0, 0, 0, 0) else none) else (bif Nat.beq pc 21 then some (.iload_n 2, 22, 0, 0, 0, 0) else none)))) else (bif Nat.ble pc 26 then (bif Nat.ble pc 22 then (bif Nat.beq pc 22 then some (.invokestatic 25, 25, 0, 900, 0, 288) else none) else (bif Nat.ble pc 25 then (bif Nat.beq pc 25 then some (.aload_n 0, 26, 0, 0, 0, 0) else none) else (bif Nat.beq pc 26 then some (.getfield 15, 29, 0, 1, 1, 115) else none))) else (bif Nat.ble pc 29 then (bif Nat.beq pc 29 then some (.iload_n 1, 30, 0, 0, 0, 0) else none) else (bif Nat.ble pc 30 then (bif Nat.beq pc 30 then some (.iconst 1, 31, 0, 0, 0, 0) else none) else (bif Nat.beq pc 31 then some (.iadd, 32, 0, 0, 0, 0) else none)))))) else (bif Nat.ble pc 48 then (bif Nat.ble pc 38 then (bif Nat.ble pc 33 then (bif Nat.ble pc 32 then (bif Nat.beq pc 32 then some (.aload_n 0, 33, 0, 0, 0, 0) else none) else (bif Nat.beq pc 33 then some (.getfield 15, 36, 0, 1, 1, 115) else none)) else (bif Nat.ble pc 36 then (bif Nat.beq pc 36 then some (.iload_n 1, 37, 0, 0, 0, 0) else none) else (bif Nat.ble pc 37 then (bif Nat.beq pc 37 then some (.iload_n 2, 38, 0, 0, 0, 0) else none) else (bif Nat.beq pc 38 then some (.invokestatic 25, 41, 0, 900, 0, 288) else none)))) else (bif Nat.ble pc 45 then (bif Nat.ble pc 41 then (bif Nat.beq pc 41 then some (.aload_n 0, 42, 0, 0, 0, 0) else none) else (bif Nat.ble pc 42 then (bif Nat.beq pc 42 then some (.getfield 18, 45, 0, 1, 2, 118) else none) else (bif Nat.beq pc 45 then some (.iload_n 1, 46, 0, 0, 0, 0) else none))) else (bif Nat.ble pc 46 then (bif Nat.beq pc 46 then some (.iconst 1, 47, 0, 0, 0, 0) else none) else (bif Nat.ble pc 47 then (bif Nat.beq pc 47 then some (.iadd, 48, 0, 0, 0, 0) else none) else (bif Nat.beq pc 48 then some (.aload_n 0, 49, 0, 0, 0, 0) else none))))) else (bif Nat.ble pc 57 then (bif Nat.ble pc 52 then (bif Nat.ble pc 49 then (bif Nat.beq pc 49 then some (.getfield 18, 52, 0, 1, 2, 118) else none) else (bif Nat.beq pc 52 then some (.iload_n 1, 53, 0, 0, 0, 0) else none)) else (bif Nat.ble pc 53 then (bif Nat.beq pc 53 then some (.iload_n 2, 54, 0, 0, 0, 0) else none) else (bif Nat.ble pc 54 then (bif Nat.beq pc 54 then some (.invokestatic 25, 57, 0, 900, 0, 288) else none) else (bif Nat.beq pc 57 then some (.aload_n 0, 58, 0, 0, 0, 0) else none)))) else (bif Nat.ble pc 62 then (bif Nat.ble pc 58 then (bif Nat.beq pc 58 then some (.dup, 59, 0, 0, 0, 0) else none) else (bif Nat.ble pc 59 then (bif Nat.beq pc 59 then some (.getfield 21, 62, 0, 1, 3, 120) else none) else (bif Nat.beq pc 62 then some (.iconst 1, 63, 0, 0, 0, 0) else none))) else (bif Nat.ble pc 63 then (bif Nat.beq pc 63 then some (.isub, 64, 0, 0, 0, 0) else none) else (bif Nat.ble pc 64 then (bif Nat.beq pc 64 then some (.putfield 21, 67, 0, 1, 3, 120) else none) else (bif Nat.beq pc 67 then some (.return_, 68, 0, 0, 0, 0) else none)))))))
set_option maxRecDepth 100000 in
def fp_k8 (pc : Nat) : Option FpE := (bif Nat.ble pc 23 then (bif Nat.ble pc 11 then (bif Nat.ble pc 5 then (bif Nat.ble pc 1 then (bif Nat.ble pc 0 then (bif Nat.beq pc 0 then some (.aload_n 0, 1, 0, 0, 0, 0) else none) else (bif Nat.beq pc 1 then some (.getfield 21, 4, 0, 1, 3, 120) else none)) else (bif Nat.ble pc 4 then (bif Nat.beq pc 4 then some (.istore_n 2, 5, 0, 0, 0, 0) else none) else (bif Nat.beq pc 5 then some (.aload_n 0, 6, 0, 0, 0, 0) else none))) else (bif Nat.ble pc 9 then (bif Nat.ble pc 6 then (bif Nat.beq pc 6 then some (.getfield 21, 9, 0, 1, 3, 120) else none) else (bif Nat.beq pc 9 then some (.iconst 1, 10, 0, 0, 0, 0) else none)) else (bif Nat.ble pc 10 then (bif Nat.beq pc 10 then some (.isub, 11, 0, 0, 0, 0) else none) else (bif Nat.beq pc 11 then some (.istore_n 3, 12, 0, 0, 0, 0) else none)))) else (bif Nat.ble pc 17 then (bif Nat.ble pc 13 then (bif Nat.ble pc 12 then (bif Nat.beq pc 12 then some (.iload_n 3, 13, 0, 0, 0, 0) else none) else (bif Nat.beq pc 13 then some (.ifCond .lt 33, 16, 46, 0, 0, 0) else none)) else (bif Nat.ble pc 16 then (bif Nat.beq pc 16 then some (.aload_n 0, 17, 0, 0, 0, 0) else none) else (bif Nat.beq pc 17 then some (.getfield 18, 20, 0, 1, 2, 118) else none))) else (bif Nat.ble pc 21 then (bif Nat.ble pc 20 then (bif Nat.beq pc 20 then some (.iload_n 3, 21, 0, 0, 0, 0) else none) else (bif Nat.beq pc 21 then some (.dup2, 22, 0, 0, 0, 0) else none)) else (bif Nat.ble pc 22 then (bif Nat.beq pc 22 then some (.iaload, 23, 0, 0, 0, 0) else none) else (bif Nat.beq pc 23 then some (.iload_n 1, 24, 0, 0, 0, 0) else none))))) else (bif Nat.ble pc 35 then (bif Nat.ble pc 27 then (bif Nat.ble pc 25 then (bif Nat.ble pc 24 then (bif Nat.beq pc 24 then some (.isub, 25, 0, 0, 0, 0) else none) else (bif Nat.beq pc 25 then some (.iastore, 26, 0, 0, 0, 0) else none)) else (bif Nat.ble pc 26 then (bif Nat.beq pc 26 then some (.aload_n 0, 27, 0, 0, 0, 0) else none) else (bif Nat.beq pc 27 then some (.getfield 18, 30, 0, 1, 2, 118) else none))) else (bif Nat.ble pc 31 then (bif Nat.ble pc 30 then (bif Nat.beq pc 30 then some (.iload_n 3, 31, 0, 0, 0, 0) else none) else (bif Nat.beq pc 31 then some (.iaload, 32, 0, 0, 0, 0) else none)) else (bif Nat.ble pc 32 then (bif Nat.beq pc 32 then some (.ifCond .gt 8, 35, 40, 0, 0, 0) else none) else (bif Nat.beq pc 35 then some (.aload_n 0, 36, 0, 0, 0, 0) else none)))) else (bif Nat.ble pc 43 then (bif Nat.ble pc 37 then (bif Nat.ble pc 36 then (bif Nat.beq pc 36 then some (.iload_n 3, 37, 0, 0, 0, 0) else none) else (bif Nat.beq pc 37 then some (.invokevirtual 31, 40, 1, 7, 2, 489) else none)) else (bif Nat.ble pc 40 then (bif Nat.beq pc 40 then some (.iinc 3 (-1), 43, 0, 0, 0, 0) else none) else (bif Nat.beq pc 43 then some (.goto (-31), 46, 12, 0, 0, 0) else none))) else (bif Nat.ble pc 47 then (bif Nat.ble pc 46 then (bif Nat.beq pc 46 then some (.iload_n 2, 47, 0, 0, 0, 0) else none) else (bif Nat.beq pc 47 then some (.aload_n 0, 48, 0, 0, 0, 0) else none)) else (bif Nat.ble pc 48 then (bif Nat.beq pc 48 then some (.getfield 21, 51, 0, 1, 3, 120) else none) else (bif Nat.ble pc 51 then (bif Nat.beq pc 51 then some (.isub, 52, 0, 0, 0, 0) else none) else (bif Nat.beq pc 52 then some (.ireturn, 53, 0, 0, 0, 0) else none)))))))
set_option maxRecDepth 100000 in
def fp_k9 (pc : Nat) : Option FpE := (bif Nat.ble pc 12 then (bif Nat.ble pc 3 then (bif Nat.ble pc 1 then (bif Nat.ble pc 0 then (bif Nat.beq pc 0 then some (.iconst 0, 1, 0, 0, 0, 0) else none) else (bif Nat.beq pc 1 then some (.istore_n 2, 2, 0, 0, 0, 0) else none)) else (bif Nat.ble pc 2 then (bif Nat.beq pc 2 then some (.iconst 0, 3, 0, 0, 0, 0) else none) else (bif Nat.beq pc 3 then some (.istore_n 3, 4, 0, 0, 0, 0) else none))) else (bif Nat.ble pc 5 then (bif Nat.ble pc 4 then (bif Nat.beq pc 4 then some (.iload_n 3, 5, 0, 0, 0, 0) else none) else (bif Nat.beq pc 5 then some (.aload_n 0, 6, 0, 0, 0, 0) else none)) else (bif Nat.ble pc 6 then (bif Nat.beq pc 6 then some (.getfield 21, 9, 0, 1, 3, 120) else none) else (bif Nat.ble pc 9 then (bif Nat.beq pc 9 then some (.if_icmp .ge 22, 12, 31, 0, 0, 0) else none) else (bif Nat.beq pc 12 then some (.aload_n 0, 13, 0, 0, 0, 0) else none))))) else (bif Nat.ble pc 19 then (bif Nat.ble pc 16 then (bif Nat.ble pc 13 then (bif Nat.beq pc 13 then some (.getfield 9, 16, 0, 1, 0, 112) else none) else (bif Nat.beq pc 16 then some (.iload_n 3, 17, 0, 0, 0, 0) else none)) else (bif Nat.ble pc 17 then (bif Nat.beq pc 17 then some (.iaload, 18, 0, 0, 0, 0) else none) else (bif Nat.ble pc 18 then (bif Nat.beq pc 18 then some (.iload_n 1, 19, 0, 0, 0, 0) else none) else (bif Nat.beq pc 19 then some (.if_icmp .ne 6, 22, 25, 0, 0, 0) else none)))) else (bif Nat.ble pc 25 then (bif Nat.ble pc 22 then (bif Nat.beq pc 22 then some (.iinc 2 1, 25, 0, 0, 0, 0) else none) else (bif Nat.beq pc 25 then some (.iinc 3 1, 28, 0, 0, 0, 0) else none)) else (bif Nat.ble pc 28 then (bif Nat.beq pc 28 then some (.goto (-24), 31, 4, 0, 0, 0) else none) else (bif Nat.ble pc 31 then (bif Nat.beq pc 31 then some (.iload_n 2, 32, 0, 0, 0, 0) else none) else (bif Nat.beq pc 32 then some (.ireturn, 33, 0, 0, 0, 0) else none))))))
set_option maxRecDepth 100000 in
def fp_k10 (pc : Nat) : Option FpE := (bif Nat.ble pc 31 then (bif Nat.ble pc 14 then (bif Nat.ble pc 3 then (bif Nat.ble pc 1 then (bif Nat.ble pc 0 then (bif Nat.beq pc 0 then some (.iconst 0, 1, 0, 0, 0, 0) else none) else (bif Nat.beq pc 1 then some (.istore_n 3, 2, 0, 0, 0, 0) else none)) else (bif Nat.ble pc 2 then (bif Nat.beq pc 2 then some (.iconst 0, 3, 0, 0, 0, 0) else none) else (bif Nat.beq pc 3 then some (.istore 4, 5, 0, 0, 0, 0) else none))) else (bif Nat.ble pc 7 then (bif Nat.ble pc 5 then (bif Nat.beq pc 5 then some (.iload 4, 7, 0, 0, 0, 0) else none) else (bif Nat.beq pc 7 then some (.aload_n 0, 8, 0, 0, 0, 0) else none)) else (bif Nat.ble pc 8 then (bif Nat.beq pc 8 then some (.getfield 21, 11, 0, 1, 3, 120) else none) else (bif Nat.ble pc 11 then (bif Nat.beq pc 11 then some (.if_icmp .ge 57, 14, 68, 0, 0, 0) else none) else (bif Nat.beq pc 14 then some (.aload_n 0, 15, 0, 0, 0, 0) else none))))) else (bif Nat.ble pc 21 then (bif Nat.ble pc 18 then (bif Nat.ble pc 15 then (bif Nat.beq pc 15 then some (.getfield 15, 18, 0, 1, 1, 115) else none) else (bif Nat.beq pc 18 then some (.iload 4, 20, 0, 0, 0, 0) else none)) else (bif Nat.ble pc 20 then (bif Nat.beq pc 20 then some (.iaload, 21, 0, 0, 0, 0) else none) else (bif Nat.beq pc 21 then some (.iload_n 2, 22, 0, 0, 0, 0) else none))) else (bif Nat.ble pc 25 then (bif Nat.ble pc 22 then (bif Nat.beq pc 22 then some (.if_icmp .eq 14, 25, 36, 0, 0, 0) else none) else (bif Nat.beq pc 25 then some (.aload_n 0, 26, 0, 0, 0, 0) else none)) else (bif Nat.ble pc 26 then (bif Nat.beq pc 26 then some (.getfield 15, 29, 0, 1, 1, 115) else none) else (bif Nat.ble pc 29 then (bif Nat.beq pc 29 then some (.iload 4, 31, 0, 0, 0, 0) else none) else (bif Nat.beq pc 31 then some (.iaload, 32, 0, 0, 0, 0) else none)))))) else (bif Nat.ble pc 47 then (bif Nat.ble pc 37 then (bif Nat.ble pc 33 then (bif Nat.ble pc 32 then (bif Nat.beq pc 32 then some (.iconst 2, 33, 0, 0, 0, 0) else none) else (bif Nat.beq pc 33 then some (.if_icmp .ne 7, 36, 40, 0, 0, 0) else none)) else (bif Nat.ble pc 36 then (bif Nat.beq pc 36 then some (.iconst 1, 37, 0, 0, 0, 0) else none) else (bif Nat.beq pc 37 then some (.goto 4, 40, 41, 0, 0, 0) else none))) else (bif Nat.ble pc 41 then (bif Nat.ble pc 40 then (bif Nat.beq pc 40 then some (.iconst 0, 41, 0, 0, 0, 0) else none) else (bif Nat.beq pc 41 then some (.istore 5, 43, 0, 0, 0, 0) else none)) else (bif Nat.ble pc 43 then (bif Nat.beq pc 43 then some (.aload_n 0, 44, 0, 0, 0, 0) else none) else (bif Nat.ble pc 44 then (bif Nat.beq pc 44 then some (.getfield 9, 47, 0, 1, 0, 112) else none) else (bif Nat.beq pc 47 then some (.iload 4, 49, 0, 0, 0, 0) else none))))) else (bif Nat.ble pc 56 then (bif Nat.ble pc 50 then (bif Nat.ble pc 49 then (bif Nat.beq pc 49 then some (.iaload, 50, 0, 0, 0, 0) else none) else (bif Nat.beq pc 50 then some (.iload_n 1, 51, 0, 0, 0, 0) else none)) else (bif Nat.ble pc 51 then (bif Nat.beq pc 51 then some (.if_icmp .ne 11, 54, 62, 0, 0, 0) else none) else (bif Nat.ble pc 54 then (bif Nat.beq pc 54 then some (.iload 5, 56, 0, 0, 0, 0) else none) else (bif Nat.beq pc 56 then some (.ifCond .eq 6, 59, 62, 0, 0, 0) else none)))) else (bif Nat.ble pc 62 then (bif Nat.ble pc 59 then (bif Nat.beq pc 59 then some (.iinc 3 1, 62, 0, 0, 0, 0) else none) else (bif Nat.beq pc 62 then some (.iinc 4 1, 65, 0, 0, 0, 0) else none)) else (bif Nat.ble pc 65 then (bif Nat.beq pc 65 then some (.goto (-60), 68, 5, 0, 0, 0) else none) else (bif Nat.ble pc 68 then (bif Nat.beq pc 68 then some (.iload_n 3, 69, 0, 0, 0, 0) else none) else (bif Nat.beq pc 69 then some (.ireturn, 70, 0, 0, 0, 0) else none)))))))
set_option maxRecDepth 100000 in
def fp_k11 (pc : Nat) : Option FpE := (bif Nat.ble pc 37 then (bif Nat.ble pc 18 then (bif Nat.ble pc 6 then (bif Nat.ble pc 1 then (bif Nat.ble pc 0 then (bif Nat.beq pc 0 then some (.aload_n 1, 1, 0, 0, 0, 0) else none) else (bif Nat.beq pc 1 then some (.getfield 9, 4, 0, 2, 0, 60) else none)) else (bif Nat.ble pc 4 then (bif Nat.beq pc 4 then some (.iconst 0, 5, 0, 0, 0, 0) else none) else (bif Nat.ble pc 5 then (bif Nat.beq pc 5 then some (.aload_n 0, 6, 0, 0, 0, 0) else none) else (bif Nat.beq pc 6 then some (.getfield 9, 9, 0, 2, 0, 60) else none)))) else (bif Nat.ble pc 11 then (bif Nat.ble pc 9 then (bif Nat.beq pc 9 then some (.iconst 0, 10, 0, 0, 0, 0) else none) else (bif Nat.ble pc 10 then (bif Nat.beq pc 10 then some (.aload_n 0, 11, 0, 0, 0, 0) else none) else (bif Nat.beq pc 11 then some (.getfield 9, 14, 0, 2, 0, 60) else none))) else (bif Nat.ble pc 14 then (bif Nat.beq pc 14 then some (.arraylength, 15, 0, 0, 0, 0) else none) else (bif Nat.ble pc 15 then (bif Nat.beq pc 15 then some (.invokestatic 28, 18, 0, 900, 0, 276) else none) else (bif Nat.beq pc 18 then some (.aload_n 1, 19, 0, 0, 0, 0) else none))))) else (bif Nat.ble pc 27 then (bif Nat.ble pc 22 then (bif Nat.ble pc 19 then (bif Nat.beq pc 19 then some (.getfield 15, 22, 0, 2, 1, 61) else none) else (bif Nat.beq pc 22 then some (.iconst 0, 23, 0, 0, 0, 0) else none)) else (bif Nat.ble pc 23 then (bif Nat.beq pc 23 then some (.aload_n 0, 24, 0, 0, 0, 0) else none) else (bif Nat.ble pc 24 then (bif Nat.beq pc 24 then some (.getfield 15, 27, 0, 2, 1, 61) else none) else (bif Nat.beq pc 27 then some (.iconst 0, 28, 0, 0, 0, 0) else none)))) else (bif Nat.ble pc 32 then (bif Nat.ble pc 28 then (bif Nat.beq pc 28 then some (.aload_n 0, 29, 0, 0, 0, 0) else none) else (bif Nat.ble pc 29 then (bif Nat.beq pc 29 then some (.getfield 15, 32, 0, 2, 1, 61) else none) else (bif Nat.beq pc 32 then some (.arraylength, 33, 0, 0, 0, 0) else none))) else (bif Nat.ble pc 33 then (bif Nat.beq pc 33 then some (.invokestatic 28, 36, 0, 900, 0, 276) else none) else (bif Nat.ble pc 36 then (bif Nat.beq pc 36 then some (.aload_n 1, 37, 0, 0, 0, 0) else none) else (bif Nat.beq pc 37 then some (.getfield 18, 40, 0, 2, 2, 64) else none)))))) else (bif Nat.ble pc 58 then (bif Nat.ble pc 46 then (bif Nat.ble pc 41 then (bif Nat.ble pc 40 then (bif Nat.beq pc 40 then some (.iconst 0, 41, 0, 0, 0, 0) else none) else (bif Nat.beq pc 41 then some (.aload_n 0, 42, 0, 0, 0, 0) else none)) else (bif Nat.ble pc 42 then (bif Nat.beq pc 42 then some (.getfield 18, 45, 0, 2, 2, 64) else none) else (bif Nat.ble pc 45 then (bif Nat.beq pc 45 then some (.iconst 0, 46, 0, 0, 0, 0) else none) else (bif Nat.beq pc 46 then some (.aload_n 0, 47, 0, 0, 0, 0) else none)))) else (bif Nat.ble pc 51 then (bif Nat.ble pc 47 then (bif Nat.beq pc 47 then some (.getfield 18, 50, 0, 2, 2, 64) else none) else (bif Nat.ble pc 50 then (bif Nat.beq pc 50 then some (.arraylength, 51, 0, 0, 0, 0) else none) else (bif Nat.beq pc 51 then some (.invokestatic 28, 54, 0, 900, 0, 276) else none))) else (bif Nat.ble pc 54 then (bif Nat.beq pc 54 then some (.aload_n 1, 55, 0, 0, 0, 0) else none) else (bif Nat.ble pc 55 then (bif Nat.beq pc 55 then some (.getfield 21, 58, 0, 2, 3, 67) else none) else (bif Nat.beq pc 58 then some (.iconst 0, 59, 0, 0, 0, 0) else none))))) else (bif Nat.ble pc 68 then (bif Nat.ble pc 63 then (bif Nat.ble pc 59 then (bif Nat.beq pc 59 then some (.aload_n 0, 60, 0, 0, 0, 0) else none) else (bif Nat.ble pc 60 then (bif Nat.beq pc 60 then some (.getfield 21, 63, 0, 2, 3, 67) else none) else (bif Nat.beq pc 63 then some (.iconst 0, 64, 0, 0, 0, 0) else none))) else (bif Nat.ble pc 64 then (bif Nat.beq pc 64 then some (.aload_n 0, 65, 0, 0, 0, 0) else none) else (bif Nat.ble pc 65 then (bif Nat.beq pc 65 then some (.getfield 21, 68, 0, 2, 3, 67) else none) else (bif Nat.beq pc 68 then some (.arraylength, 69, 0, 0, 0, 0) else none)))) else (bif Nat.ble pc 73 then (bif Nat.ble pc 69 then (bif Nat.beq pc 69 then some (.invokestatic 28, 72, 0, 900, 0, 276) else none) else (bif Nat.ble pc 72 then (bif Nat.beq pc 72 then some (.aload_n 0, 73, 0, 0, 0, 0) else none) else (bif Nat.beq pc 73 then some (.aload_n 1, 74, 0, 0, 0, 0) else none))) else (bif Nat.ble pc 74 then (bif Nat.beq pc 74 then some (.getfield 24, 77, 0, 2, 4, 70) else none) else (bif Nat.ble pc 77 then (bif Nat.beq pc 77 then some (.putfield 24, 80, 0, 2, 4, 70) else none) else (bif Nat.beq pc 80 then some (.return_, 81, 0, 0, 0, 0) else none)))))))
set_option maxRecDepth 100000 in
def fp_k12 (pc : Nat) : Option FpE := (bif Nat.ble pc 6 then (bif Nat.ble pc 1 then (bif Nat.ble pc 0 then (bif Nat.beq pc 0 then some (.iload_n 1, 1, 0, 0, 0, 0) else none) else (bif Nat.beq pc 1 then some (.ifCond .lt 15, 4, 16, 0, 0, 0) else none)) else (bif Nat.ble pc 4 then (bif Nat.beq pc 4 then some (.iload_n 1, 5, 0, 0, 0, 0) else none) else (bif Nat.ble pc 5 then (bif Nat.beq pc 5 then some (.aload_n 0, 6, 0, 0, 0, 0) else none) else (bif Nat.beq pc 6 then some (.getfield 24, 9, 0, 2, 4, 70) else none)))) else (bif Nat.ble pc 12 then (bif Nat.ble pc 9 then (bif Nat.beq pc 9 then some (.if_icmp .ge 7, 12, 16, 0, 0, 0) else none) else (bif Nat.beq pc 12 then some (.iconst 1, 13, 0, 0, 0, 0) else none)) else (bif Nat.ble pc 13 then (bif Nat.beq pc 13 then some (.goto 4, 16, 17, 0, 0, 0) else none) else (bif Nat.ble pc 16 then (bif Nat.beq pc 16 then some (.iconst 0, 17, 0, 0, 0, 0) else none) else (bif Nat.beq pc 17 then some (.ireturn, 18, 0, 0, 1, 0) else none)))))
set_option maxRecDepth 100000 in
def fp_k13 (pc : Nat) : Option FpE := (bif Nat.ble pc 6 then (bif Nat.ble pc 1 then (bif Nat.ble pc 0 then (bif Nat.beq pc 0 then some (.aload_n 0, 1, 0, 0, 0, 0) else none) else (bif Nat.beq pc 1 then some (.getfield 24, 4, 0, 2, 4, 70) else none)) else (bif Nat.ble pc 4 then (bif Nat.beq pc 4 then some (.bipush 10, 6, 0, 0, 0, 0) else none) else (bif Nat.beq pc 6 then some (.if_icmp .lt 7, 9, 13, 0, 0, 0) else none))) else (bif Nat.ble pc 10 then (bif Nat.ble pc 9 then (bif Nat.beq pc 9 then some (.iconst 1, 10, 0, 0, 0, 0) else none) else (bif Nat.beq pc 10 then some (.goto 4, 13, 14, 0, 0, 0) else none)) else (bif Nat.ble pc 13 then (bif Nat.beq pc 13 then some (.iconst 0, 14, 0, 0, 0, 0) else none) else (bif Nat.beq pc 14 then some (.ireturn, 15, 0, 0, 1, 0) else none))))
set_option maxRecDepth 100000 in
def fp_k14 (pc : Nat) : Option FpE := (bif Nat.ble pc 5 then (bif Nat.ble pc 1 then (bif Nat.ble pc 0 then (bif Nat.beq pc 0 then some (.aload_n 0, 1, 0, 0, 0, 0) else none) else (bif Nat.beq pc 1 then some (.getfield 9, 4, 0, 2, 0, 60) else none)) else (bif Nat.ble pc 4 then (bif Nat.beq pc 4 then some (.iload_n 1, 5, 0, 0, 0, 0) else none) else (bif Nat.beq pc 5 then some (.bipush 8, 7, 0, 0, 0, 0) else none))) else (bif Nat.ble pc 8 then (bif Nat.ble pc 7 then (bif Nat.beq pc 7 then some (.imul, 8, 0, 0, 0, 0) else none) else (bif Nat.beq pc 8 then some (.iload_n 2, 9, 0, 0, 0, 0) else none)) else (bif Nat.ble pc 9 then (bif Nat.beq pc 9 then some (.iadd, 10, 0, 0, 0, 0) else none) else (bif Nat.ble pc 10 then (bif Nat.beq pc 10 then some (.iaload, 11, 0, 0, 0, 0) else none) else (bif Nat.beq pc 11 then some (.ireturn, 12, 0, 0, 0, 0) else none)))))
set_option maxRecDepth 100000 in
def fp_k15 (pc : Nat) : Option FpE := (bif Nat.ble pc 11 then (bif Nat.ble pc 3 then (bif Nat.ble pc 1 then (bif Nat.ble pc 0 then (bif Nat.beq pc 0 then some (.iconst 0, 1, 0, 0, 0, 0) else none) else (bif Nat.beq pc 1 then some (.istore_n 2, 2, 0, 0, 0, 0) else none)) else (bif Nat.ble pc 2 then (bif Nat.beq pc 2 then some (.iconst 0, 3, 0, 0, 0, 0) else none) else (bif Nat.beq pc 3 then some (.istore_n 3, 4, 0, 0, 0, 0) else none))) else (bif Nat.ble pc 5 then (bif Nat.ble pc 4 then (bif Nat.beq pc 4 then some (.iload_n 3, 5, 0, 0, 0, 0) else none) else (bif Nat.beq pc 5 then some (.bipush 8, 7, 0, 0, 0, 0) else none)) else (bif Nat.ble pc 7 then (bif Nat.beq pc 7 then some (.if_icmp .ge 20, 10, 27, 0, 0, 0) else none) else (bif Nat.ble pc 10 then (bif Nat.beq pc 10 then some (.iload_n 2, 11, 0, 0, 0, 0) else none) else (bif Nat.beq pc 11 then some (.aload_n 0, 12, 0, 0, 0, 0) else none))))) else (bif Nat.ble pc 17 then (bif Nat.ble pc 13 then (bif Nat.ble pc 12 then (bif Nat.beq pc 12 then some (.iload_n 1, 13, 0, 0, 0, 0) else none) else (bif Nat.beq pc 13 then some (.iload_n 3, 14, 0, 0, 0, 0) else none)) else (bif Nat.ble pc 14 then (bif Nat.beq pc 14 then some (.invokevirtual 34, 17, 2, 14, 3, 382) else none) else (bif Nat.beq pc 17 then some (.invokestatic 38, 20, 0, 901, 0, 459) else none))) else (bif Nat.ble pc 21 then (bif Nat.ble pc 20 then (bif Nat.beq pc 20 then some (.istore_n 2, 21, 0, 0, 0, 0) else none) else (bif Nat.beq pc 21 then some (.iinc 3 1, 24, 0, 0, 0, 0) else none)) else (bif Nat.ble pc 24 then (bif Nat.beq pc 24 then some (.goto (-20), 27, 4, 0, 0, 0) else none) else (bif Nat.ble pc 27 then (bif Nat.beq pc 27 then some (.iload_n 2, 28, 0, 0, 0, 0) else none) else (bif Nat.beq pc 28 then some (.ireturn, 29, 0, 0, 0, 0) else none))))))
set_option maxRecDepth 100000 in
def fp_k16 (pc : Nat) : Option FpE := (bif Nat.ble pc 11 then (bif Nat.ble pc 3 then (bif Nat.ble pc 1 then (bif Nat.ble pc 0 then (bif Nat.beq pc 0 then some (.iconst 0, 1, 0, 0, 0, 0) else none) else (bif Nat.beq pc 1 then some (.istore_n 2, 2, 0, 0, 0, 0) else none)) else (bif Nat.ble pc 2 then (bif Nat.beq pc 2 then some (.iconst 0, 3, 0, 0, 0, 0) else none) else (bif Nat.beq pc 3 then some (.istore_n 3, 4, 0, 0, 0, 0) else none))) else (bif Nat.ble pc 5 then (bif Nat.ble pc 4 then (bif Nat.beq pc 4 then some (.iload_n 3, 5, 0, 0, 0, 0) else none) else (bif Nat.beq pc 5 then some (.bipush 8, 7, 0, 0, 0, 0) else none)) else (bif Nat.ble pc 7 then (bif Nat.beq pc 7 then some (.if_icmp .ge 18, 10, 25, 0, 0, 0) else none) else (bif Nat.ble pc 10 then (bif Nat.beq pc 10 then some (.iload_n 2, 11, 0, 0, 0, 0) else none) else (bif Nat.beq pc 11 then some (.aload_n 0, 12, 0, 0, 0, 0) else none))))) else (bif Nat.ble pc 17 then (bif Nat.ble pc 13 then (bif Nat.ble pc 12 then (bif Nat.beq pc 12 then some (.iload_n 1, 13, 0, 0, 0, 0) else none) else (bif Nat.beq pc 13 then some (.iload_n 3, 14, 0, 0, 0, 0) else none)) else (bif Nat.ble pc 14 then (bif Nat.beq pc 14 then some (.invokevirtual 34, 17, 2, 14, 3, 382) else none) else (bif Nat.beq pc 17 then some (.iadd, 18, 0, 0, 0, 0) else none))) else (bif Nat.ble pc 19 then (bif Nat.ble pc 18 then (bif Nat.beq pc 18 then some (.istore_n 2, 19, 0, 0, 0, 0) else none) else (bif Nat.beq pc 19 then some (.iinc 3 1, 22, 0, 0, 0, 0) else none)) else (bif Nat.ble pc 22 then (bif Nat.beq pc 22 then some (.goto (-18), 25, 4, 0, 0, 0) else none) else (bif Nat.ble pc 25 then (bif Nat.beq pc 25 then some (.iload_n 2, 26, 0, 0, 0, 0) else none) else (bif Nat.beq pc 26 then some (.ireturn, 27, 0, 0, 0, 0) else none))))))
set_option maxRecDepth 100000 in
def fp_k17 (pc : Nat) : Option FpE := (bif Nat.ble pc 17 then (bif Nat.ble pc 7 then (bif Nat.ble pc 1 then (bif Nat.ble pc 0 then (bif Nat.beq pc 0 then some (.iconst 0, 1, 0, 0, 0, 0) else none) else (bif Nat.beq pc 1 then some (.istore 4, 3, 0, 0, 0, 0) else none)) else (bif Nat.ble pc 3 then (bif Nat.beq pc 3 then some (.iload 4, 5, 0, 0, 0, 0) else none) else (bif Nat.ble pc 5 then (bif Nat.beq pc 5 then some (.bipush 8, 7, 0, 0, 0, 0) else none) else (bif Nat.beq pc 7 then some (.if_icmp .ge 27, 10, 34, 0, 0, 0) else none)))) else (bif Nat.ble pc 11 then (bif Nat.ble pc 10 then (bif Nat.beq pc 10 then some (.aload_n 0, 11, 0, 0, 0, 0) else none) else (bif Nat.beq pc 11 then some (.iload_n 1, 12, 0, 0, 0, 0) else none)) else (bif Nat.ble pc 12 then (bif Nat.beq pc 12 then some (.iload 4, 14, 0, 0, 0, 0) else none) else (bif Nat.ble pc 14 then (bif Nat.beq pc 14 then some (.invokevirtual 34, 17, 2, 14, 3, 382) else none) else (bif Nat.beq pc 17 then some (.aload_n 2, 18, 0, 0, 0, 0) else none))))) else (bif Nat.ble pc 23 then (bif Nat.ble pc 19 then (bif Nat.ble pc 18 then (bif Nat.beq pc 18 then some (.iload_n 3, 19, 0, 0, 0, 0) else none) else (bif Nat.beq pc 19 then some (.iload 4, 21, 0, 0, 0, 0) else none)) else (bif Nat.ble pc 21 then (bif Nat.beq pc 21 then some (.iadd, 22, 0, 0, 0, 0) else none) else (bif Nat.ble pc 22 then (bif Nat.beq pc 22 then some (.iaload, 23, 0, 0, 0, 0) else none) else (bif Nat.beq pc 23 then some (.if_icmp .eq 5, 26, 28, 0, 0, 0) else none)))) else (bif Nat.ble pc 28 then (bif Nat.ble pc 26 then (bif Nat.beq pc 26 then some (.iconst 0, 27, 0, 0, 0, 0) else none) else (bif Nat.ble pc 27 then (bif Nat.beq pc 27 then some (.ireturn, 28, 0, 0, 1, 0) else none) else (bif Nat.beq pc 28 then some (.iinc 4 1, 31, 0, 0, 0, 0) else none))) else (bif Nat.ble pc 31 then (bif Nat.beq pc 31 then some (.goto (-28), 34, 3, 0, 0, 0) else none) else (bif Nat.ble pc 34 then (bif Nat.beq pc 34 then some (.iconst 1, 35, 0, 0, 0, 0) else none) else (bif Nat.beq pc 35 then some (.ireturn, 36, 0, 0, 1, 0) else none))))))
set_option maxRecDepth 100000 in
def fp_k18 (pc : Nat) : Option FpE := (bif Nat.ble pc 3 then (bif Nat.ble pc 1 then (bif Nat.ble pc 0 then (bif Nat.beq pc 0 then some (.aload_n 0, 1, 0, 0, 0, 0) else none) else (bif Nat.beq pc 1 then some (.iload_n 1, 2, 0, 0, 0, 0) else none)) else (bif Nat.ble pc 2 then (bif Nat.beq pc 2 then some (.aload_n 0, 3, 0, 0, 0, 0) else none) else (bif Nat.beq pc 3 then some (.getfield 9, 6, 0, 2, 0, 60) else none))) else (bif Nat.ble pc 7 then (bif Nat.ble pc 6 then (bif Nat.beq pc 6 then some (.iload_n 2, 7, 0, 0, 0, 0) else none) else (bif Nat.beq pc 7 then some (.bipush 8, 9, 0, 0, 0, 0) else none)) else (bif Nat.ble pc 9 then (bif Nat.beq pc 9 then some (.imul, 10, 0, 0, 0, 0) else none) else (bif Nat.ble pc 10 then (bif Nat.beq pc 10 then some (.invokevirtual 43, 13, 2, 17, 4, 378) else none) else (bif Nat.beq pc 13 then some (.ireturn, 14, 0, 0, 1, 0) else none)))))
set_option maxRecDepth 100000 in
def fp_k19 (pc : Nat) : Option FpE := (bif Nat.ble pc 9 then (bif Nat.ble pc 3 then (bif Nat.ble pc 1 then (bif Nat.ble pc 0 then (bif Nat.beq pc 0 then some (.iconst 0, 1, 0, 0, 0, 0) else none) else (bif Nat.beq pc 1 then some (.istore_n 2, 2, 0, 0, 0, 0) else none)) else (bif Nat.ble pc 2 then (bif Nat.beq pc 2 then some (.iload_n 2, 3, 0, 0, 0, 0) else none) else (bif Nat.beq pc 3 then some (.iload_n 1, 4, 0, 0, 0, 0) else none))) else (bif Nat.ble pc 7 then (bif Nat.ble pc 4 then (bif Nat.beq pc 4 then some (.if_icmp .ge 20, 7, 24, 0, 0, 0) else none) else (bif Nat.beq pc 7 then some (.aload_n 0, 8, 0, 0, 0, 0) else none)) else (bif Nat.ble pc 8 then (bif Nat.beq pc 8 then some (.iload_n 2, 9, 0, 0, 0, 0) else none) else (bif Nat.beq pc 9 then some (.iload_n 1, 10, 0, 0, 0, 0) else none)))) else (bif Nat.ble pc 17 then (bif Nat.ble pc 13 then (bif Nat.ble pc 10 then (bif Nat.beq pc 10 then some (.invokevirtual 47, 13, 2, 18, 3, 549) else none) else (bif Nat.beq pc 13 then some (.ifCond .eq 5, 16, 18, 0, 0, 0) else none)) else (bif Nat.ble pc 16 then (bif Nat.beq pc 16 then some (.iload_n 2, 17, 0, 0, 0, 0) else none) else (bif Nat.beq pc 17 then some (.ireturn, 18, 0, 0, 0, 0) else none))) else (bif Nat.ble pc 21 then (bif Nat.ble pc 18 then (bif Nat.beq pc 18 then some (.iinc 2 1, 21, 0, 0, 0, 0) else none) else (bif Nat.beq pc 21 then some (.goto (-19), 24, 2, 0, 0, 0) else none)) else (bif Nat.ble pc 24 then (bif Nat.beq pc 24 then some (.iload_n 1, 25, 0, 0, 0, 0) else none) else (bif Nat.beq pc 25 then some (.ireturn, 26, 0, 0, 0, 0) else none)))))
set_option maxRecDepth 100000 in
def fp_k20 (pc : Nat) : Option FpE := (bif Nat.ble pc 20 then (bif Nat.ble pc 7 then (bif Nat.ble pc 2 then (bif Nat.ble pc 0 then (bif Nat.beq pc 0 then some (.iconst 0, 1, 0, 0, 0, 0) else none) else (bif Nat.ble pc 1 then (bif Nat.beq pc 1 then some (.istore_n 3, 2, 0, 0, 0, 0) else none) else (bif Nat.beq pc 2 then some (.iload_n 3, 3, 0, 0, 0, 0) else none))) else (bif Nat.ble pc 3 then (bif Nat.beq pc 3 then some (.aload_n 0, 4, 0, 0, 0, 0) else none) else (bif Nat.ble pc 4 then (bif Nat.beq pc 4 then some (.getfield 24, 7, 0, 2, 4, 70) else none) else (bif Nat.beq pc 7 then some (.if_icmp .ge 21, 10, 28, 0, 0, 0) else none)))) else (bif Nat.ble pc 12 then (bif Nat.ble pc 10 then (bif Nat.beq pc 10 then some (.aload_n 0, 11, 0, 0, 0, 0) else none) else (bif Nat.ble pc 11 then (bif Nat.beq pc 11 then some (.iload_n 3, 12, 0, 0, 0, 0) else none) else (bif Nat.beq pc 12 then some (.aload_n 1, 13, 0, 0, 0, 0) else none))) else (bif Nat.ble pc 14 then (bif Nat.ble pc 13 then (bif Nat.beq pc 13 then some (.iload_n 2, 14, 0, 0, 0, 0) else none) else (bif Nat.beq pc 14 then some (.invokevirtual 43, 17, 2, 17, 4, 378) else none)) else (bif Nat.ble pc 17 then (bif Nat.beq pc 17 then some (.ifCond .eq 5, 20, 22, 0, 0, 0) else none) else (bif Nat.beq pc 20 then some (.iload_n 3, 21, 0, 0, 0, 0) else none))))) else (bif Nat.ble pc 32 then (bif Nat.ble pc 25 then (bif Nat.ble pc 21 then (bif Nat.beq pc 21 then some (.ireturn, 22, 0, 0, 0, 0) else none) else (bif Nat.ble pc 22 then (bif Nat.beq pc 22 then some (.iinc 3 1, 25, 0, 0, 0, 0) else none) else (bif Nat.beq pc 25 then some (.goto (-23), 28, 2, 0, 0, 0) else none))) else (bif Nat.ble pc 28 then (bif Nat.beq pc 28 then some (.aload_n 0, 29, 0, 0, 0, 0) else none) else (bif Nat.ble pc 29 then (bif Nat.beq pc 29 then some (.invokevirtual 51, 32, 2, 13, 1, 386) else none) else (bif Nat.beq pc 32 then some (.ifCond .eq 8, 35, 40, 0, 0, 0) else none)))) else (bif Nat.ble pc 40 then (bif Nat.ble pc 35 then (bif Nat.beq pc 35 then some (.bipush (-3), 37, 0, 0, 0, 0) else none) else (bif Nat.ble pc 37 then (bif Nat.beq pc 37 then some (.goto 9, 40, 46, 0, 0, 0) else none) else (bif Nat.beq pc 40 then some (.aload_n 0, 41, 0, 0, 0, 0) else none))) else (bif Nat.ble pc 42 then (bif Nat.ble pc 41 then (bif Nat.beq pc 41 then some (.aload_n 1, 42, 0, 0, 0, 0) else none) else (bif Nat.beq pc 42 then some (.iload_n 2, 43, 0, 0, 0, 0) else none)) else (bif Nat.ble pc 43 then (bif Nat.beq pc 43 then some (.invokevirtual 55, 46, 2, 21, 3, 325) else none) else (bif Nat.beq pc 46 then some (.ireturn, 47, 0, 0, 0, 0) else none))))))
set_option maxRecDepth 100000 in
def fp_k21 (pc : Nat) : Option FpE := (bif Nat.ble pc 14 then (bif Nat.ble pc 6 then (bif Nat.ble pc 1 then (bif Nat.ble pc 0 then (bif Nat.beq pc 0 then some (.aload_n 0, 1, 0, 0, 0, 0) else none) else (bif Nat.beq pc 1 then some (.getfield 24, 4, 0, 2, 4, 70) else none)) else (bif Nat.ble pc 4 then (bif Nat.beq pc 4 then some (.istore_n 3, 5, 0, 0, 0, 0) else none) else (bif Nat.ble pc 5 then (bif Nat.beq pc 5 then some (.aload_n 1, 6, 0, 0, 0, 0) else none) else (bif Nat.beq pc 6 then some (.iload_n 2, 7, 0, 0, 0, 0) else none)))) else (bif Nat.ble pc 8 then (bif Nat.ble pc 7 then (bif Nat.beq pc 7 then some (.aload_n 0, 8, 0, 0, 0, 0) else none) else (bif Nat.beq pc 8 then some (.getfield 9, 11, 0, 2, 0, 60) else none)) else (bif Nat.ble pc 11 then (bif Nat.beq pc 11 then some (.iload_n 3, 12, 0, 0, 0, 0) else none) else (bif Nat.ble pc 12 then (bif Nat.beq pc 12 then some (.bipush 8, 14, 0, 0, 0, 0) else none) else (bif Nat.beq pc 14 then some (.imul, 15, 0, 0, 0, 0) else none))))) else (bif Nat.ble pc 22 then (bif Nat.ble pc 17 then (bif Nat.ble pc 15 then (bif Nat.beq pc 15 then some (.bipush 8, 17, 0, 0, 0, 0) else none) else (bif Nat.beq pc 17 then some (.invokestatic 28, 20, 0, 900, 0, 276) else none)) else (bif Nat.ble pc 20 then (bif Nat.beq pc 20 then some (.aload_n 0, 21, 0, 0, 0, 0) else none) else (bif Nat.ble pc 21 then (bif Nat.beq pc 21 then some (.dup, 22, 0, 0, 0, 0) else none) else (bif Nat.beq pc 22 then some (.getfield 24, 25, 0, 2, 4, 70) else none)))) else (bif Nat.ble pc 26 then (bif Nat.ble pc 25 then (bif Nat.beq pc 25 then some (.iconst 1, 26, 0, 0, 0, 0) else none) else (bif Nat.beq pc 26 then some (.iadd, 27, 0, 0, 0, 0) else none)) else (bif Nat.ble pc 27 then (bif Nat.beq pc 27 then some (.putfield 24, 30, 0, 2, 4, 70) else none) else (bif Nat.ble pc 30 then (bif Nat.beq pc 30 then some (.iload_n 3, 31, 0, 0, 0, 0) else none) else (bif Nat.beq pc 31 then some (.ireturn, 32, 0, 0, 0, 0) else none))))))
set_option maxRecDepth 100000 in
def fp_k22 (pc : Nat) : Option FpE := (bif Nat.ble pc 14 then (bif Nat.ble pc 5 then (bif Nat.ble pc 1 then (bif Nat.ble pc 0 then (bif Nat.beq pc 0 then some (.aload_n 0, 1, 0, 0, 0, 0) else none) else (bif Nat.beq pc 1 then some (.aload_n 0, 2, 0, 0, 0, 0) else none)) else (bif Nat.ble pc 2 then (bif Nat.beq pc 2 then some (.getfield 9, 5, 0, 2, 0, 60) else none) else (bif Nat.beq pc 5 then some (.iload_n 1, 6, 0, 0, 0, 0) else none))) else (bif Nat.ble pc 8 then (bif Nat.ble pc 6 then (bif Nat.beq pc 6 then some (.bipush 8, 8, 0, 0, 0, 0) else none) else (bif Nat.beq pc 8 then some (.imul, 9, 0, 0, 0, 0) else none)) else (bif Nat.ble pc 9 then (bif Nat.beq pc 9 then some (.invokevirtual 55, 12, 2, 21, 3, 325) else none) else (bif Nat.ble pc 12 then (bif Nat.beq pc 12 then some (.istore 4, 14, 0, 0, 0, 0) else none) else (bif Nat.beq pc 14 then some (.aload_n 0, 15, 0, 0, 0, 0) else none))))) else (bif Nat.ble pc 23 then (bif Nat.ble pc 18 then (bif Nat.ble pc 15 then (bif Nat.beq pc 15 then some (.getfield 9, 18, 0, 2, 0, 60) else none) else (bif Nat.beq pc 18 then some (.iload 4, 20, 0, 0, 0, 0) else none)) else (bif Nat.ble pc 20 then (bif Nat.beq pc 20 then some (.bipush 8, 22, 0, 0, 0, 0) else none) else (bif Nat.ble pc 22 then (bif Nat.beq pc 22 then some (.imul, 23, 0, 0, 0, 0) else none) else (bif Nat.beq pc 23 then some (.iload_n 2, 24, 0, 0, 0, 0) else none)))) else (bif Nat.ble pc 25 then (bif Nat.ble pc 24 then (bif Nat.beq pc 24 then some (.iadd, 25, 0, 0, 0, 0) else none) else (bif Nat.beq pc 25 then some (.iload_n 3, 26, 0, 0, 0, 0) else none)) else (bif Nat.ble pc 26 then (bif Nat.beq pc 26 then some (.iastore, 27, 0, 0, 0, 0) else none) else (bif Nat.ble pc 27 then (bif Nat.beq pc 27 then some (.iload 4, 29, 0, 0, 0, 0) else none) else (bif Nat.beq pc 29 then some (.ireturn, 30, 0, 0, 0, 0) else none))))))
set_option maxRecDepth 100000 in
def fp_k23 (pc : Nat) : Option FpE := (bif Nat.ble pc 24 then (bif Nat.ble pc 10 then (bif Nat.ble pc 2 then (bif Nat.ble pc 0 then (bif Nat.beq pc 0 then some (.iload_n 2, 1, 0, 0, 0, 0) else none) else (bif Nat.ble pc 1 then (bif Nat.beq pc 1 then some (.iconst 1, 2, 0, 0, 0, 0) else none) else (bif Nat.beq pc 2 then some (.if_icmp .eq 12, 5, 14, 0, 0, 0) else none))) else (bif Nat.ble pc 6 then (bif Nat.ble pc 5 then (bif Nat.beq pc 5 then some (.aload_n 0, 6, 0, 0, 0, 0) else none) else (bif Nat.beq pc 6 then some (.getfield 15, 9, 0, 2, 1, 61) else none)) else (bif Nat.ble pc 9 then (bif Nat.beq pc 9 then some (.iload_n 1, 10, 0, 0, 0, 0) else none) else (bif Nat.beq pc 10 then some (.iaload, 11, 0, 0, 0, 0) else none)))) else (bif Nat.ble pc 18 then (bif Nat.ble pc 14 then (bif Nat.ble pc 11 then (bif Nat.beq pc 11 then some (.ifCond .le 7, 14, 18, 0, 0, 0) else none) else (bif Nat.beq pc 14 then some (.iconst 1, 15, 0, 0, 0, 0) else none)) else (bif Nat.ble pc 15 then (bif Nat.beq pc 15 then some (.goto 4, 18, 19, 0, 0, 0) else none) else (bif Nat.beq pc 18 then some (.iconst 0, 19, 0, 0, 0, 0) else none))) else (bif Nat.ble pc 20 then (bif Nat.ble pc 19 then (bif Nat.beq pc 19 then some (.istore_n 3, 20, 0, 0, 0, 0) else none) else (bif Nat.beq pc 20 then some (.iload_n 2, 21, 0, 0, 0, 0) else none)) else (bif Nat.ble pc 21 then (bif Nat.beq pc 21 then some (.ifCond .eq 12, 24, 33, 0, 0, 0) else none) else (bif Nat.beq pc 24 then some (.aload_n 0, 25, 0, 0, 0, 0) else none))))) else (bif Nat.ble pc 38 then (bif Nat.ble pc 30 then (bif Nat.ble pc 28 then (bif Nat.ble pc 25 then (bif Nat.beq pc 25 then some (.getfield 18, 28, 0, 2, 2, 64) else none) else (bif Nat.beq pc 28 then some (.iload_n 1, 29, 0, 0, 0, 0) else none)) else (bif Nat.ble pc 29 then (bif Nat.beq pc 29 then some (.iaload, 30, 0, 0, 0, 0) else none) else (bif Nat.beq pc 30 then some (.ifCond .le 7, 33, 37, 0, 0, 0) else none))) else (bif Nat.ble pc 34 then (bif Nat.ble pc 33 then (bif Nat.beq pc 33 then some (.iconst 1, 34, 0, 0, 0, 0) else none) else (bif Nat.beq pc 34 then some (.goto 4, 37, 38, 0, 0, 0) else none)) else (bif Nat.ble pc 37 then (bif Nat.beq pc 37 then some (.iconst 0, 38, 0, 0, 0, 0) else none) else (bif Nat.beq pc 38 then some (.istore 4, 40, 0, 0, 0, 0) else none)))) else (bif Nat.ble pc 46 then (bif Nat.ble pc 41 then (bif Nat.ble pc 40 then (bif Nat.beq pc 40 then some (.iload_n 3, 41, 0, 0, 0, 0) else none) else (bif Nat.beq pc 41 then some (.ifCond .eq 12, 44, 53, 0, 0, 0) else none)) else (bif Nat.ble pc 44 then (bif Nat.beq pc 44 then some (.iload 4, 46, 0, 0, 0, 0) else none) else (bif Nat.beq pc 46 then some (.ifCond .eq 7, 49, 53, 0, 0, 0) else none))) else (bif Nat.ble pc 50 then (bif Nat.ble pc 49 then (bif Nat.beq pc 49 then some (.iconst 1, 50, 0, 0, 0, 0) else none) else (bif Nat.beq pc 50 then some (.goto 4, 53, 54, 0, 0, 0) else none)) else (bif Nat.ble pc 53 then (bif Nat.beq pc 53 then some (.iconst 0, 54, 0, 0, 0, 0) else none) else (bif Nat.beq pc 54 then some (.ireturn, 55, 0, 0, 1, 0) else none))))))
set_option maxRecDepth 100000 in
def fp_k24 (pc : Nat) : Option FpE := (bif Nat.ble pc 14 then (bif Nat.ble pc 6 then (bif Nat.ble pc 1 then (bif Nat.ble pc 0 then (bif Nat.beq pc 0 then some (.iload_n 2, 1, 0, 0, 0, 0) else none) else (bif Nat.beq pc 1 then some (.iconst 1, 2, 0, 0, 0, 0) else none)) else (bif Nat.ble pc 2 then (bif Nat.beq pc 2 then some (.if_icmp .eq 13, 5, 15, 0, 0, 0) else none) else (bif Nat.ble pc 5 then (bif Nat.beq pc 5 then some (.aload_n 0, 6, 0, 0, 0, 0) else none) else (bif Nat.beq pc 6 then some (.getfield 15, 9, 0, 2, 1, 61) else none)))) else (bif Nat.ble pc 11 then (bif Nat.ble pc 9 then (bif Nat.beq pc 9 then some (.iload_n 1, 10, 0, 0, 0, 0) else none) else (bif Nat.ble pc 10 then (bif Nat.beq pc 10 then some (.dup2, 11, 0, 0, 0, 0) else none) else (bif Nat.beq pc 11 then some (.iaload, 12, 0, 0, 0, 0) else none))) else (bif Nat.ble pc 12 then (bif Nat.beq pc 12 then some (.iconst 1, 13, 0, 0, 0, 0) else none) else (bif Nat.ble pc 13 then (bif Nat.beq pc 13 then some (.isub, 14, 0, 0, 0, 0) else none) else (bif Nat.beq pc 14 then some (.iastore, 15, 0, 0, 0, 0) else none))))) else (bif Nat.ble pc 23 then (bif Nat.ble pc 16 then (bif Nat.ble pc 15 then (bif Nat.beq pc 15 then some (.iload_n 2, 16, 0, 0, 0, 0) else none) else (bif Nat.beq pc 16 then some (.ifCond .eq 13, 19, 29, 0, 0, 0) else none)) else (bif Nat.ble pc 19 then (bif Nat.beq pc 19 then some (.aload_n 0, 20, 0, 0, 0, 0) else none) else (bif Nat.ble pc 20 then (bif Nat.beq pc 20 then some (.getfield 18, 23, 0, 2, 2, 64) else none) else (bif Nat.beq pc 23 then some (.iload_n 1, 24, 0, 0, 0, 0) else none)))) else (bif Nat.ble pc 26 then (bif Nat.ble pc 24 then (bif Nat.beq pc 24 then some (.dup2, 25, 0, 0, 0, 0) else none) else (bif Nat.ble pc 25 then (bif Nat.beq pc 25 then some (.iaload, 26, 0, 0, 0, 0) else none) else (bif Nat.beq pc 26 then some (.iconst 1, 27, 0, 0, 0, 0) else none))) else (bif Nat.ble pc 27 then (bif Nat.beq pc 27 then some (.isub, 28, 0, 0, 0, 0) else none) else (bif Nat.ble pc 28 then (bif Nat.beq pc 28 then some (.iastore, 29, 0, 0, 0, 0) else none) else (bif Nat.beq pc 29 then some (.return_, 30, 0, 0, 0, 0) else none))))))
set_option maxRecDepth 100000 in
def fp_k25 (pc : Nat) : Option FpE := (bif Nat.ble pc 17 then (bif Nat.ble pc 5 then (bif Nat.ble pc 2 then (bif Nat.ble pc 0 then (bif Nat.beq pc 0 then some (.iconst 0, 1, 0, 0, 0, 0) else none) else (bif Nat.ble pc 1 then (bif Nat.beq pc 1 then some (.istore_n 1, 2, 0, 0, 0, 0) else none) else (bif Nat.beq pc 2 then some (.iconst 0, 3, 0, 0, 0, 0) else none))) else (bif Nat.ble pc 3 then (bif Nat.beq pc 3 then some (.istore_n 2, 4, 0, 0, 0, 0) else none) else (bif Nat.ble pc 4 then (bif Nat.beq pc 4 then some (.iload_n 2, 5, 0, 0, 0, 0) else none) else (bif Nat.beq pc 5 then some (.aload_n 0, 6, 0, 0, 0, 0) else none)))) else (bif Nat.ble pc 12 then (bif Nat.ble pc 6 then (bif Nat.beq pc 6 then some (.getfield 24, 9, 0, 2, 4, 70) else none) else (bif Nat.ble pc 9 then (bif Nat.beq pc 9 then some (.if_icmp .ge 25, 12, 34, 0, 0, 0) else none) else (bif Nat.beq pc 12 then some (.iload_n 1, 13, 0, 0, 0, 0) else none))) else (bif Nat.ble pc 13 then (bif Nat.beq pc 13 then some (.aload_n 0, 14, 0, 0, 0, 0) else none) else (bif Nat.ble pc 14 then (bif Nat.beq pc 14 then some (.getfield 15, 17, 0, 2, 1, 61) else none) else (bif Nat.beq pc 17 then some (.iload_n 2, 18, 0, 0, 0, 0) else none))))) else (bif Nat.ble pc 25 then (bif Nat.ble pc 20 then (bif Nat.ble pc 18 then (bif Nat.beq pc 18 then some (.iaload, 19, 0, 0, 0, 0) else none) else (bif Nat.ble pc 19 then (bif Nat.beq pc 19 then some (.aload_n 0, 20, 0, 0, 0, 0) else none) else (bif Nat.beq pc 20 then some (.getfield 18, 23, 0, 2, 2, 64) else none))) else (bif Nat.ble pc 23 then (bif Nat.beq pc 23 then some (.iload_n 2, 24, 0, 0, 0, 0) else none) else (bif Nat.ble pc 24 then (bif Nat.beq pc 24 then some (.iaload, 25, 0, 0, 0, 0) else none) else (bif Nat.beq pc 25 then some (.iadd, 26, 0, 0, 0, 0) else none)))) else (bif Nat.ble pc 28 then (bif Nat.ble pc 26 then (bif Nat.beq pc 26 then some (.iadd, 27, 0, 0, 0, 0) else none) else (bif Nat.ble pc 27 then (bif Nat.beq pc 27 then some (.istore_n 1, 28, 0, 0, 0, 0) else none) else (bif Nat.beq pc 28 then some (.iinc 2 1, 31, 0, 0, 0, 0) else none))) else (bif Nat.ble pc 31 then (bif Nat.beq pc 31 then some (.goto (-27), 34, 4, 0, 0, 0) else none) else (bif Nat.ble pc 34 then (bif Nat.beq pc 34 then some (.iload_n 1, 35, 0, 0, 0, 0) else none) else (bif Nat.beq pc 35 then some (.ireturn, 36, 0, 0, 0, 0) else none))))))
set_option maxRecDepth 100000 in
def fp_k26 (pc : Nat) : Option FpE := (bif Nat.ble pc 12 then (bif Nat.ble pc 3 then (bif Nat.ble pc 1 then (bif Nat.ble pc 0 then (bif Nat.beq pc 0 then some (.iconst 0, 1, 0, 0, 0, 0) else none) else (bif Nat.beq pc 1 then some (.istore_n 1, 2, 0, 0, 0, 0) else none)) else (bif Nat.ble pc 2 then (bif Nat.beq pc 2 then some (.iconst 0, 3, 0, 0, 0, 0) else none) else (bif Nat.beq pc 3 then some (.istore_n 2, 4, 0, 0, 0, 0) else none))) else (bif Nat.ble pc 5 then (bif Nat.ble pc 4 then (bif Nat.beq pc 4 then some (.iload_n 2, 5, 0, 0, 0, 0) else none) else (bif Nat.beq pc 5 then some (.aload_n 0, 6, 0, 0, 0, 0) else none)) else (bif Nat.ble pc 6 then (bif Nat.beq pc 6 then some (.getfield 24, 9, 0, 2, 4, 70) else none) else (bif Nat.ble pc 9 then (bif Nat.beq pc 9 then some (.if_icmp .ge 18, 12, 27, 0, 0, 0) else none) else (bif Nat.beq pc 12 then some (.iload_n 1, 13, 0, 0, 0, 0) else none))))) else (bif Nat.ble pc 19 then (bif Nat.ble pc 14 then (bif Nat.ble pc 13 then (bif Nat.beq pc 13 then some (.aload_n 0, 14, 0, 0, 0, 0) else none) else (bif Nat.beq pc 14 then some (.getfield 21, 17, 0, 2, 3, 67) else none)) else (bif Nat.ble pc 17 then (bif Nat.beq pc 17 then some (.iload_n 2, 18, 0, 0, 0, 0) else none) else (bif Nat.ble pc 18 then (bif Nat.beq pc 18 then some (.iaload, 19, 0, 0, 0, 0) else none) else (bif Nat.beq pc 19 then some (.iadd, 20, 0, 0, 0, 0) else none)))) else (bif Nat.ble pc 21 then (bif Nat.ble pc 20 then (bif Nat.beq pc 20 then some (.istore_n 1, 21, 0, 0, 0, 0) else none) else (bif Nat.beq pc 21 then some (.iinc 2 1, 24, 0, 0, 0, 0) else none)) else (bif Nat.ble pc 24 then (bif Nat.beq pc 24 then some (.goto (-20), 27, 4, 0, 0, 0) else none) else (bif Nat.ble pc 27 then (bif Nat.beq pc 27 then some (.iload_n 1, 28, 0, 0, 0, 0) else none) else (bif Nat.beq pc 28 then some (.ireturn, 29, 0, 0, 0, 0) else none))))))
set_option maxRecDepth 100000 in
def fp_k27 (pc : Nat) : Option FpE := (bif Nat.ble pc 46 then (bif Nat.ble pc 22 then (bif Nat.ble pc 10 then (bif Nat.ble pc 2 then (bif Nat.ble pc 0 then (bif Nat.beq pc 0 then some (.aload_n 0, 1, 0, 0, 0, 0) else none) else (bif Nat.ble pc 1 then (bif Nat.beq pc 1 then some (.iconst 0, 2, 0, 0, 0, 0) else none) else (bif Nat.beq pc 2 then some (.putfield 32, 5, 0, 3, 6, 216) else none))) else (bif Nat.ble pc 6 then (bif Nat.ble pc 5 then (bif Nat.beq pc 5 then some (.aload_n 0, 6, 0, 0, 0, 0) else none) else (bif Nat.beq pc 6 then some (.iconst 0, 7, 0, 0, 0, 0) else none)) else (bif Nat.ble pc 7 then (bif Nat.beq pc 7 then some (.putfield 29, 10, 0, 3, 5, 214) else none) else (bif Nat.beq pc 10 then some (.iconst 0, 11, 0, 0, 0, 0) else none)))) else (bif Nat.ble pc 13 then (bif Nat.ble pc 11 then (bif Nat.beq pc 11 then some (.istore_n 1, 12, 0, 0, 0, 0) else none) else (bif Nat.ble pc 12 then (bif Nat.beq pc 12 then some (.iload_n 1, 13, 0, 0, 0, 0) else none) else (bif Nat.beq pc 13 then some (.bipush 8, 15, 0, 0, 0, 0) else none))) else (bif Nat.ble pc 18 then (bif Nat.ble pc 15 then (bif Nat.beq pc 15 then some (.if_icmp .ge 75, 18, 90, 0, 0, 0) else none) else (bif Nat.beq pc 18 then some (.iload_n 1, 19, 0, 0, 0, 0) else none)) else (bif Nat.ble pc 19 then (bif Nat.beq pc 19 then some (.ifCond .le 14, 22, 33, 0, 0, 0) else none) else (bif Nat.beq pc 22 then some (.aload_n 0, 23, 0, 0, 0, 0) else none))))) else (bif Nat.ble pc 34 then (bif Nat.ble pc 28 then (bif Nat.ble pc 23 then (bif Nat.beq pc 23 then some (.bipush 59, 25, 0, 0, 0, 0) else none) else (bif Nat.ble pc 25 then (bif Nat.beq pc 25 then some (.invokevirtual 35, 28, 3, 33, 2, 349) else none) else (bif Nat.beq pc 28 then some (.ifCond .ne 5, 31, 33, 0, 0, 0) else none))) else (bif Nat.ble pc 32 then (bif Nat.ble pc 31 then (bif Nat.beq pc 31 then some (.iconst 0, 32, 0, 0, 0, 0) else none) else (bif Nat.beq pc 32 then some (.ireturn, 33, 0, 0, 1, 0) else none)) else (bif Nat.ble pc 33 then (bif Nat.beq pc 33 then some (.aload_n 0, 34, 0, 0, 0, 0) else none) else (bif Nat.beq pc 34 then some (.iload_n 1, 35, 0, 0, 0, 0) else none)))) else (bif Nat.ble pc 38 then (bif Nat.ble pc 35 then (bif Nat.beq pc 35 then some (.bipush 8, 37, 0, 0, 0, 0) else none) else (bif Nat.ble pc 37 then (bif Nat.beq pc 37 then some (.imul, 38, 0, 0, 0, 0) else none) else (bif Nat.beq pc 38 then some (.invokevirtual 39, 41, 3, 28, 2, 353) else none))) else (bif Nat.ble pc 44 then (bif Nat.ble pc 41 then (bif Nat.beq pc 41 then some (.ifCond .eq 11, 44, 52, 0, 0, 0) else none) else (bif Nat.beq pc 44 then some (.aload_n 0, 45, 0, 0, 0, 0) else none)) else (bif Nat.ble pc 45 then (bif Nat.beq pc 45 then some (.iload_n 1, 46, 0, 0, 0, 0) else none) else (bif Nat.beq pc 46 then some (.invokevirtual 43, 49, 3, 29, 2, 365) else none)))))) else (bif Nat.ble pc 72 then (bif Nat.ble pc 59 then (bif Nat.ble pc 53 then (bif Nat.ble pc 49 then (bif Nat.beq pc 49 then some (.ifCond .ne 5, 52, 54, 0, 0, 0) else none) else (bif Nat.ble pc 52 then (bif Nat.beq pc 52 then some (.iconst 0, 53, 0, 0, 0, 0) else none) else (bif Nat.beq pc 53 then some (.ireturn, 54, 0, 0, 1, 0) else none))) else (bif Nat.ble pc 55 then (bif Nat.ble pc 54 then (bif Nat.beq pc 54 then some (.aload_n 0, 55, 0, 0, 0, 0) else none) else (bif Nat.beq pc 55 then some (.getfield 26, 58, 0, 3, 4, 212) else none)) else (bif Nat.ble pc 58 then (bif Nat.beq pc 58 then some (.iload_n 1, 59, 0, 0, 0, 0) else none) else (bif Nat.beq pc 59 then some (.aload_n 0, 60, 0, 0, 0, 0) else none)))) else (bif Nat.ble pc 64 then (bif Nat.ble pc 60 then (bif Nat.beq pc 60 then some (.invokevirtual 46, 63, 3, 30, 1, 369) else none) else (bif Nat.ble pc 63 then (bif Nat.beq pc 63 then some (.iastore, 64, 0, 0, 0, 0) else none) else (bif Nat.beq pc 64 then some (.aload_n 0, 65, 0, 0, 0, 0) else none))) else (bif Nat.ble pc 68 then (bif Nat.ble pc 65 then (bif Nat.beq pc 65 then some (.getfield 32, 68, 0, 3, 6, 216) else none) else (bif Nat.beq pc 68 then some (.aload_n 0, 69, 0, 0, 0, 0) else none)) else (bif Nat.ble pc 69 then (bif Nat.beq pc 69 then some (.getfield 15, 72, 0, 3, 1, 206) else none) else (bif Nat.beq pc 72 then some (.if_icmp .ne 12, 75, 84, 0, 0, 0) else none))))) else (bif Nat.ble pc 83 then (bif Nat.ble pc 77 then (bif Nat.ble pc 75 then (bif Nat.beq pc 75 then some (.aload_n 0, 76, 0, 0, 0, 0) else none) else (bif Nat.ble pc 76 then (bif Nat.beq pc 76 then some (.iload_n 1, 77, 0, 0, 0, 0) else none) else (bif Nat.beq pc 77 then some (.iconst 1, 78, 0, 0, 0, 0) else none))) else (bif Nat.ble pc 79 then (bif Nat.ble pc 78 then (bif Nat.beq pc 78 then some (.iadd, 79, 0, 0, 0, 0) else none) else (bif Nat.beq pc 79 then some (.putfield 29, 82, 0, 3, 5, 214) else none)) else (bif Nat.ble pc 82 then (bif Nat.beq pc 82 then some (.iconst 1, 83, 0, 0, 0, 0) else none) else (bif Nat.beq pc 83 then some (.ireturn, 84, 0, 0, 1, 0) else none)))) else (bif Nat.ble pc 91 then (bif Nat.ble pc 87 then (bif Nat.ble pc 84 then (bif Nat.beq pc 84 then some (.iinc 1 1, 87, 0, 0, 0, 0) else none) else (bif Nat.beq pc 87 then some (.goto (-75), 90, 12, 0, 0, 0) else none)) else (bif Nat.ble pc 90 then (bif Nat.beq pc 90 then some (.aload_n 0, 91, 0, 0, 0, 0) else none) else (bif Nat.beq pc 91 then some (.bipush 59, 93, 0, 0, 0, 0) else none))) else (bif Nat.ble pc 96 then (bif Nat.ble pc 93 then (bif Nat.beq pc 93 then some (.invokevirtual 35, 96, 3, 33, 2, 349) else none) else (bif Nat.beq pc 96 then some (.pop, 97, 0, 0, 0, 0) else none)) else (bif Nat.ble pc 97 then (bif Nat.beq pc 97 then some (.iconst 0, 98, 0, 0, 0, 0) else none) else (bif Nat.beq pc 98 then some (.ireturn, 99, 0, 0, 1, 0) else none)))))))
set_option maxRecDepth 100000 in
def fp_k28 (pc : Nat) : Option FpE := (bif Nat.ble pc 18 then (bif Nat.ble pc 5 then (bif Nat.ble pc 1 then (bif Nat.ble pc 0 then (bif Nat.beq pc 0 then some (.iconst 0, 1, 0, 0, 0, 0) else none) else (bif Nat.beq pc 1 then some (.istore_n 2, 2, 0, 0, 0, 0) else none)) else (bif Nat.ble pc 2 then (bif Nat.beq pc 2 then some (.iload_n 2, 3, 0, 0, 0, 0) else none) else (bif Nat.ble pc 3 then (bif Nat.beq pc 3 then some (.bipush 8, 5, 0, 0, 0, 0) else none) else (bif Nat.beq pc 5 then some (.if_icmp .ge 32, 8, 37, 0, 0, 0) else none)))) else (bif Nat.ble pc 11 then (bif Nat.ble pc 8 then (bif Nat.beq pc 8 then some (.aload_n 0, 9, 0, 0, 0, 0) else none) else (bif Nat.ble pc 9 then (bif Nat.beq pc 9 then some (.bipush 49, 11, 0, 0, 0, 0) else none) else (bif Nat.beq pc 11 then some (.invokevirtual 50, 14, 3, 31, 2, 357) else none))) else (bif Nat.ble pc 14 then (bif Nat.beq pc 14 then some (.ifCond .ne 5, 17, 19, 0, 0, 0) else none) else (bif Nat.ble pc 17 then (bif Nat.beq pc 17 then some (.iconst 0, 18, 0, 0, 0, 0) else none) else (bif Nat.beq pc 18 then some (.ireturn, 19, 0, 0, 1, 0) else none))))) else (bif Nat.ble pc 26 then (bif Nat.ble pc 23 then (bif Nat.ble pc 19 then (bif Nat.beq pc 19 then some (.aload_n 0, 20, 0, 0, 0, 0) else none) else (bif Nat.ble pc 20 then (bif Nat.beq pc 20 then some (.getfield 19, 23, 0, 3, 2, 208) else none) else (bif Nat.beq pc 23 then some (.iload_n 1, 24, 0, 0, 0, 0) else none))) else (bif Nat.ble pc 24 then (bif Nat.beq pc 24 then some (.iload_n 2, 25, 0, 0, 0, 0) else none) else (bif Nat.ble pc 25 then (bif Nat.beq pc 25 then some (.iadd, 26, 0, 0, 0, 0) else none) else (bif Nat.beq pc 26 then some (.aload_n 0, 27, 0, 0, 0, 0) else none)))) else (bif Nat.ble pc 31 then (bif Nat.ble pc 27 then (bif Nat.beq pc 27 then some (.invokevirtual 53, 30, 3, 32, 1, 361) else none) else (bif Nat.ble pc 30 then (bif Nat.beq pc 30 then some (.iastore, 31, 0, 0, 0, 0) else none) else (bif Nat.beq pc 31 then some (.iinc 2 1, 34, 0, 0, 0, 0) else none))) else (bif Nat.ble pc 34 then (bif Nat.beq pc 34 then some (.goto (-32), 37, 2, 0, 0, 0) else none) else (bif Nat.ble pc 37 then (bif Nat.beq pc 37 then some (.iconst 1, 38, 0, 0, 0, 0) else none) else (bif Nat.beq pc 38 then some (.ireturn, 39, 0, 0, 1, 0) else none))))))
set_option maxRecDepth 100000 in
def fp_k29 (pc : Nat) : Option FpE := (bif Nat.ble pc 32 then (bif Nat.ble pc 14 then (bif Nat.ble pc 6 then (bif Nat.ble pc 1 then (bif Nat.ble pc 0 then (bif Nat.beq pc 0 then some (.aload_n 0, 1, 0, 0, 0, 0) else none) else (bif Nat.beq pc 1 then some (.bipush 108, 3, 0, 0, 0, 0) else none)) else (bif Nat.ble pc 3 then (bif Nat.beq pc 3 then some (.invokevirtual 35, 6, 3, 33, 2, 349) else none) else (bif Nat.beq pc 6 then some (.ifCond .eq 13, 9, 19, 0, 0, 0) else none))) else (bif Nat.ble pc 10 then (bif Nat.ble pc 9 then (bif Nat.beq pc 9 then some (.aload_n 0, 10, 0, 0, 0, 0) else none) else (bif Nat.beq pc 10 then some (.getfield 23, 13, 0, 3, 3, 210) else none)) else (bif Nat.ble pc 13 then (bif Nat.beq pc 13 then some (.iload_n 1, 14, 0, 0, 0, 0) else none) else (bif Nat.beq pc 14 then some (.iconst 0, 15, 0, 0, 0, 0) else none)))) else (bif Nat.ble pc 20 then (bif Nat.ble pc 16 then (bif Nat.ble pc 15 then (bif Nat.beq pc 15 then some (.iastore, 16, 0, 0, 0, 0) else none) else (bif Nat.beq pc 16 then some (.goto 43, 19, 59, 0, 0, 0) else none)) else (bif Nat.ble pc 19 then (bif Nat.beq pc 19 then some (.aload_n 0, 20, 0, 0, 0, 0) else none) else (bif Nat.beq pc 20 then some (.bipush 114, 22, 0, 0, 0, 0) else none))) else (bif Nat.ble pc 25 then (bif Nat.ble pc 22 then (bif Nat.beq pc 22 then some (.invokevirtual 35, 25, 3, 33, 2, 349) else none) else (bif Nat.beq pc 25 then some (.ifCond .eq 13, 28, 38, 0, 0, 0) else none)) else (bif Nat.ble pc 28 then (bif Nat.beq pc 28 then some (.aload_n 0, 29, 0, 0, 0, 0) else none) else (bif Nat.ble pc 29 then (bif Nat.beq pc 29 then some (.getfield 23, 32, 0, 3, 3, 210) else none) else (bif Nat.beq pc 32 then some (.iload_n 1, 33, 0, 0, 0, 0) else none)))))) else (bif Nat.ble pc 47 then (bif Nat.ble pc 38 then (bif Nat.ble pc 34 then (bif Nat.ble pc 33 then (bif Nat.beq pc 33 then some (.iconst 1, 34, 0, 0, 0, 0) else none) else (bif Nat.beq pc 34 then some (.iastore, 35, 0, 0, 0, 0) else none)) else (bif Nat.ble pc 35 then (bif Nat.beq pc 35 then some (.goto 24, 38, 59, 0, 0, 0) else none) else (bif Nat.beq pc 38 then some (.aload_n 0, 39, 0, 0, 0, 0) else none))) else (bif Nat.ble pc 41 then (bif Nat.ble pc 39 then (bif Nat.beq pc 39 then some (.bipush 99, 41, 0, 0, 0, 0) else none) else (bif Nat.beq pc 41 then some (.invokevirtual 35, 44, 3, 33, 2, 349) else none)) else (bif Nat.ble pc 44 then (bif Nat.beq pc 44 then some (.ifCond .eq 13, 47, 57, 0, 0, 0) else none) else (bif Nat.beq pc 47 then some (.aload_n 0, 48, 0, 0, 0, 0) else none)))) else (bif Nat.ble pc 53 then (bif Nat.ble pc 51 then (bif Nat.ble pc 48 then (bif Nat.beq pc 48 then some (.getfield 23, 51, 0, 3, 3, 210) else none) else (bif Nat.beq pc 51 then some (.iload_n 1, 52, 0, 0, 0, 0) else none)) else (bif Nat.ble pc 52 then (bif Nat.beq pc 52 then some (.iconst 2, 53, 0, 0, 0, 0) else none) else (bif Nat.beq pc 53 then some (.iastore, 54, 0, 0, 0, 0) else none))) else (bif Nat.ble pc 57 then (bif Nat.ble pc 54 then (bif Nat.beq pc 54 then some (.goto 5, 57, 59, 0, 0, 0) else none) else (bif Nat.beq pc 57 then some (.iconst 0, 58, 0, 0, 0, 0) else none)) else (bif Nat.ble pc 58 then (bif Nat.beq pc 58 then some (.ireturn, 59, 0, 0, 1, 0) else none) else (bif Nat.ble pc 59 then (bif Nat.beq pc 59 then some (.iconst 1, 60, 0, 0, 0, 0) else none) else (bif Nat.beq pc 60 then some (.ireturn, 61, 0, 0, 1, 0) else none)))))))
set_option maxRecDepth 100000 in
def fp_k30 (pc : Nat) : Option FpE := (bif Nat.ble pc 18 then (bif Nat.ble pc 9 then (bif Nat.ble pc 1 then (bif Nat.ble pc 0 then (bif Nat.beq pc 0 then some (.aload_n 0, 1, 0, 0, 0, 0) else none) else (bif Nat.beq pc 1 then some (.bipush 49, 3, 0, 0, 0, 0) else none)) else (bif Nat.ble pc 3 then (bif Nat.beq pc 3 then some (.invokevirtual 50, 6, 3, 31, 2, 357) else none) else (bif Nat.ble pc 6 then (bif Nat.beq pc 6 then some (.ifCond .ne 6, 9, 12, 0, 0, 0) else none) else (bif Nat.beq pc 9 then some (.bipush 20, 11, 0, 0, 0, 0) else none)))) else (bif Nat.ble pc 13 then (bif Nat.ble pc 11 then (bif Nat.beq pc 11 then some (.ireturn, 12, 0, 0, 0, 0) else none) else (bif Nat.ble pc 12 then (bif Nat.beq pc 12 then some (.aload_n 0, 13, 0, 0, 0, 0) else none) else (bif Nat.beq pc 13 then some (.invokevirtual 53, 16, 3, 32, 1, 361) else none))) else (bif Nat.ble pc 16 then (bif Nat.beq pc 16 then some (.istore_n 1, 17, 0, 0, 0, 0) else none) else (bif Nat.ble pc 17 then (bif Nat.beq pc 17 then some (.aload_n 0, 18, 0, 0, 0, 0) else none) else (bif Nat.beq pc 18 then some (.bipush 48, 20, 0, 0, 0, 0) else none))))) else (bif Nat.ble pc 29 then (bif Nat.ble pc 23 then (bif Nat.ble pc 20 then (bif Nat.beq pc 20 then some (.invokevirtual 50, 23, 3, 31, 2, 357) else none) else (bif Nat.beq pc 23 then some (.ifCond .eq 13, 26, 36, 0, 0, 0) else none)) else (bif Nat.ble pc 26 then (bif Nat.beq pc 26 then some (.iload_n 1, 27, 0, 0, 0, 0) else none) else (bif Nat.ble pc 27 then (bif Nat.beq pc 27 then some (.bipush 10, 29, 0, 0, 0, 0) else none) else (bif Nat.beq pc 29 then some (.imul, 30, 0, 0, 0, 0) else none)))) else (bif Nat.ble pc 34 then (bif Nat.ble pc 30 then (bif Nat.beq pc 30 then some (.aload_n 0, 31, 0, 0, 0, 0) else none) else (bif Nat.ble pc 31 then (bif Nat.beq pc 31 then some (.invokevirtual 53, 34, 3, 32, 1, 361) else none) else (bif Nat.beq pc 34 then some (.iadd, 35, 0, 0, 0, 0) else none))) else (bif Nat.ble pc 35 then (bif Nat.beq pc 35 then some (.istore_n 1, 36, 0, 0, 0, 0) else none) else (bif Nat.ble pc 36 then (bif Nat.beq pc 36 then some (.iload_n 1, 37, 0, 0, 0, 0) else none) else (bif Nat.beq pc 37 then some (.ireturn, 38, 0, 0, 0, 0) else none))))))
set_option maxRecDepth 100000 in
def fp_k31 (pc : Nat) : Option FpE := (bif Nat.ble pc 20 then (bif Nat.ble pc 8 then (bif Nat.ble pc 1 then (bif Nat.ble pc 0 then (bif Nat.beq pc 0 then some (.aload_n 0, 1, 0, 0, 0, 0) else none) else (bif Nat.beq pc 1 then some (.getfield 32, 4, 0, 3, 6, 216) else none)) else (bif Nat.ble pc 4 then (bif Nat.beq pc 4 then some (.aload_n 0, 5, 0, 0, 0, 0) else none) else (bif Nat.ble pc 5 then (bif Nat.beq pc 5 then some (.getfield 15, 8, 0, 3, 1, 206) else none) else (bif Nat.beq pc 8 then some (.if_icmp .ge 34, 11, 42, 0, 0, 0) else none)))) else (bif Nat.ble pc 15 then (bif Nat.ble pc 11 then (bif Nat.beq pc 11 then some (.aload_n 0, 12, 0, 0, 0, 0) else none) else (bif Nat.ble pc 12 then (bif Nat.beq pc 12 then some (.getfield 9, 15, 0, 3, 0, 204) else none) else (bif Nat.beq pc 15 then some (.aload_n 0, 16, 0, 0, 0, 0) else none))) else (bif Nat.ble pc 16 then (bif Nat.beq pc 16 then some (.getfield 32, 19, 0, 3, 6, 216) else none) else (bif Nat.ble pc 19 then (bif Nat.beq pc 19 then some (.caload, 20, 0, 0, 0, 0) else none) else (bif Nat.beq pc 20 then some (.iload_n 1, 21, 0, 0, 0, 0) else none))))) else (bif Nat.ble pc 32 then (bif Nat.ble pc 25 then (bif Nat.ble pc 21 then (bif Nat.beq pc 21 then some (.if_icmp .lt 21, 24, 42, 0, 0, 0) else none) else (bif Nat.ble pc 24 then (bif Nat.beq pc 24 then some (.aload_n 0, 25, 0, 0, 0, 0) else none) else (bif Nat.beq pc 25 then some (.getfield 9, 28, 0, 3, 0, 204) else none))) else (bif Nat.ble pc 28 then (bif Nat.beq pc 28 then some (.aload_n 0, 29, 0, 0, 0, 0) else none) else (bif Nat.ble pc 29 then (bif Nat.beq pc 29 then some (.getfield 32, 32, 0, 3, 6, 216) else none) else (bif Nat.beq pc 32 then some (.caload, 33, 0, 0, 0, 0) else none)))) else (bif Nat.ble pc 38 then (bif Nat.ble pc 33 then (bif Nat.beq pc 33 then some (.bipush 57, 35, 0, 0, 0, 0) else none) else (bif Nat.ble pc 35 then (bif Nat.beq pc 35 then some (.if_icmp .gt 7, 38, 42, 0, 0, 0) else none) else (bif Nat.beq pc 38 then some (.iconst 1, 39, 0, 0, 0, 0) else none))) else (bif Nat.ble pc 39 then (bif Nat.beq pc 39 then some (.goto 4, 42, 43, 0, 0, 0) else none) else (bif Nat.ble pc 42 then (bif Nat.beq pc 42 then some (.iconst 0, 43, 0, 0, 0, 0) else none) else (bif Nat.beq pc 43 then some (.ireturn, 44, 0, 0, 1, 0) else none))))))
set_option maxRecDepth 100000 in
def fp_k32 (pc : Nat) : Option FpE := (bif Nat.ble pc 12 then (bif Nat.ble pc 5 then (bif Nat.ble pc 1 then (bif Nat.ble pc 0 then (bif Nat.beq pc 0 then some (.aload_n 0, 1, 0, 0, 0, 0) else none) else (bif Nat.beq pc 1 then some (.getfield 9, 4, 0, 3, 0, 204) else none)) else (bif Nat.ble pc 4 then (bif Nat.beq pc 4 then some (.aload_n 0, 5, 0, 0, 0, 0) else none) else (bif Nat.beq pc 5 then some (.getfield 32, 8, 0, 3, 6, 216) else none))) else (bif Nat.ble pc 9 then (bif Nat.ble pc 8 then (bif Nat.beq pc 8 then some (.caload, 9, 0, 0, 0, 0) else none) else (bif Nat.beq pc 9 then some (.bipush 48, 11, 0, 0, 0, 0) else none)) else (bif Nat.ble pc 11 then (bif Nat.beq pc 11 then some (.isub, 12, 0, 0, 0, 0) else none) else (bif Nat.beq pc 12 then some (.istore_n 1, 13, 0, 0, 0, 0) else none)))) else (bif Nat.ble pc 18 then (bif Nat.ble pc 14 then (bif Nat.ble pc 13 then (bif Nat.beq pc 13 then some (.aload_n 0, 14, 0, 0, 0, 0) else none) else (bif Nat.beq pc 14 then some (.dup, 15, 0, 0, 0, 0) else none)) else (bif Nat.ble pc 15 then (bif Nat.beq pc 15 then some (.getfield 32, 18, 0, 3, 6, 216) else none) else (bif Nat.beq pc 18 then some (.iconst 1, 19, 0, 0, 0, 0) else none))) else (bif Nat.ble pc 20 then (bif Nat.ble pc 19 then (bif Nat.beq pc 19 then some (.iadd, 20, 0, 0, 0, 0) else none) else (bif Nat.beq pc 20 then some (.putfield 32, 23, 0, 3, 6, 216) else none)) else (bif Nat.ble pc 23 then (bif Nat.beq pc 23 then some (.iload_n 1, 24, 0, 0, 0, 0) else none) else (bif Nat.beq pc 24 then some (.ireturn, 25, 0, 0, 0, 0) else none)))))
set_option maxRecDepth 100000 in
def fp_k33 (pc : Nat) : Option FpE := (bif Nat.ble pc 20 then (bif Nat.ble pc 8 then (bif Nat.ble pc 1 then (bif Nat.ble pc 0 then (bif Nat.beq pc 0 then some (.aload_n 0, 1, 0, 0, 0, 0) else none) else (bif Nat.beq pc 1 then some (.getfield 32, 4, 0, 3, 6, 216) else none)) else (bif Nat.ble pc 4 then (bif Nat.beq pc 4 then some (.aload_n 0, 5, 0, 0, 0, 0) else none) else (bif Nat.ble pc 5 then (bif Nat.beq pc 5 then some (.getfield 15, 8, 0, 3, 1, 206) else none) else (bif Nat.beq pc 8 then some (.if_icmp .ge 16, 11, 24, 0, 0, 0) else none)))) else (bif Nat.ble pc 15 then (bif Nat.ble pc 11 then (bif Nat.beq pc 11 then some (.aload_n 0, 12, 0, 0, 0, 0) else none) else (bif Nat.ble pc 12 then (bif Nat.beq pc 12 then some (.getfield 9, 15, 0, 3, 0, 204) else none) else (bif Nat.beq pc 15 then some (.aload_n 0, 16, 0, 0, 0, 0) else none))) else (bif Nat.ble pc 16 then (bif Nat.beq pc 16 then some (.getfield 32, 19, 0, 3, 6, 216) else none) else (bif Nat.ble pc 19 then (bif Nat.beq pc 19 then some (.caload, 20, 0, 0, 0, 0) else none) else (bif Nat.beq pc 20 then some (.iload_n 1, 21, 0, 0, 0, 0) else none))))) else (bif Nat.ble pc 27 then (bif Nat.ble pc 24 then (bif Nat.ble pc 21 then (bif Nat.beq pc 21 then some (.if_icmp .eq 5, 24, 26, 0, 0, 0) else none) else (bif Nat.beq pc 24 then some (.iconst 0, 25, 0, 0, 0, 0) else none)) else (bif Nat.ble pc 25 then (bif Nat.beq pc 25 then some (.ireturn, 26, 0, 0, 1, 0) else none) else (bif Nat.ble pc 26 then (bif Nat.beq pc 26 then some (.aload_n 0, 27, 0, 0, 0, 0) else none) else (bif Nat.beq pc 27 then some (.dup, 28, 0, 0, 0, 0) else none)))) else (bif Nat.ble pc 32 then (bif Nat.ble pc 28 then (bif Nat.beq pc 28 then some (.getfield 32, 31, 0, 3, 6, 216) else none) else (bif Nat.ble pc 31 then (bif Nat.beq pc 31 then some (.iconst 1, 32, 0, 0, 0, 0) else none) else (bif Nat.beq pc 32 then some (.iadd, 33, 0, 0, 0, 0) else none))) else (bif Nat.ble pc 33 then (bif Nat.beq pc 33 then some (.putfield 32, 36, 0, 3, 6, 216) else none) else (bif Nat.ble pc 36 then (bif Nat.beq pc 36 then some (.iconst 1, 37, 0, 0, 0, 0) else none) else (bif Nat.beq pc 37 then some (.ireturn, 38, 0, 0, 1, 0) else none))))))
set_option maxRecDepth 100000 in
def fp_k34 (pc : Nat) : Option FpE := (bif Nat.ble pc 44 then (bif Nat.ble pc 22 then (bif Nat.ble pc 8 then (bif Nat.ble pc 1 then (bif Nat.ble pc 0 then (bif Nat.beq pc 0 then some (.aload_n 0, 1, 0, 0, 0, 0) else none) else (bif Nat.beq pc 1 then some (.getfield 12, 4, 0, 4, 0, 141) else none)) else (bif Nat.ble pc 4 then (bif Nat.beq pc 4 then some (.aload_n 1, 5, 0, 0, 0, 0) else none) else (bif Nat.ble pc 5 then (bif Nat.beq pc 5 then some (.getfield 12, 8, 0, 4, 0, 141) else none) else (bif Nat.beq pc 8 then some (.invokevirtual 60, 11, 2, 11, 2, 272) else none)))) else (bif Nat.ble pc 15 then (bif Nat.ble pc 11 then (bif Nat.beq pc 11 then some (.aload_n 0, 12, 0, 0, 0, 0) else none) else (bif Nat.ble pc 12 then (bif Nat.beq pc 12 then some (.getfield 21, 15, 0, 4, 1, 143) else none) else (bif Nat.beq pc 15 then some (.aload_n 1, 16, 0, 0, 0, 0) else none))) else (bif Nat.ble pc 16 then (bif Nat.beq pc 16 then some (.getfield 21, 19, 0, 4, 1, 143) else none) else (bif Nat.ble pc 19 then (bif Nat.beq pc 19 then some (.invokevirtual 64, 22, 5, 44, 2, 279) else none) else (bif Nat.beq pc 22 then some (.aload_n 0, 23, 0, 0, 0, 0) else none))))) else (bif Nat.ble pc 34 then (bif Nat.ble pc 27 then (bif Nat.ble pc 23 then (bif Nat.beq pc 23 then some (.getfield 28, 26, 0, 4, 2, 145) else none) else (bif Nat.ble pc 26 then (bif Nat.beq pc 26 then some (.aload_n 1, 27, 0, 0, 0, 0) else none) else (bif Nat.beq pc 27 then some (.getfield 28, 30, 0, 4, 2, 145) else none))) else (bif Nat.ble pc 30 then (bif Nat.beq pc 30 then some (.invokevirtual 67, 33, 1, 3, 2, 284) else none) else (bif Nat.ble pc 33 then (bif Nat.beq pc 33 then some (.aload_n 1, 34, 0, 0, 0, 0) else none) else (bif Nat.beq pc 34 then some (.getfield 41, 37, 0, 4, 3, 147) else none)))) else (bif Nat.ble pc 39 then (bif Nat.ble pc 37 then (bif Nat.beq pc 37 then some (.iconst 0, 38, 0, 0, 0, 0) else none) else (bif Nat.ble pc 38 then (bif Nat.beq pc 38 then some (.aload_n 0, 39, 0, 0, 0, 0) else none) else (bif Nat.beq pc 39 then some (.getfield 41, 42, 0, 4, 3, 147) else none))) else (bif Nat.ble pc 42 then (bif Nat.beq pc 42 then some (.iconst 0, 43, 0, 0, 0, 0) else none) else (bif Nat.ble pc 43 then (bif Nat.beq pc 43 then some (.aload_n 0, 44, 0, 0, 0, 0) else none) else (bif Nat.beq pc 44 then some (.getfield 41, 47, 0, 4, 3, 147) else none)))))) else (bif Nat.ble pc 67 then (bif Nat.ble pc 53 then (bif Nat.ble pc 48 then (bif Nat.ble pc 47 then (bif Nat.beq pc 47 then some (.arraylength, 48, 0, 0, 0, 0) else none) else (bif Nat.beq pc 48 then some (.invokestatic 70, 51, 0, 900, 0, 289) else none)) else (bif Nat.ble pc 51 then (bif Nat.beq pc 51 then some (.aload_n 0, 52, 0, 0, 0, 0) else none) else (bif Nat.ble pc 52 then (bif Nat.beq pc 52 then some (.aload_n 1, 53, 0, 0, 0, 0) else none) else (bif Nat.beq pc 53 then some (.getfield 44, 56, 0, 4, 4, 149) else none)))) else (bif Nat.ble pc 60 then (bif Nat.ble pc 56 then (bif Nat.beq pc 56 then some (.putfield 44, 59, 0, 4, 4, 149) else none) else (bif Nat.ble pc 59 then (bif Nat.beq pc 59 then some (.aload_n 0, 60, 0, 0, 0, 0) else none) else (bif Nat.beq pc 60 then some (.aload_n 1, 61, 0, 0, 0, 0) else none))) else (bif Nat.ble pc 61 then (bif Nat.beq pc 61 then some (.getfield 48, 64, 0, 4, 5, 151) else none) else (bif Nat.ble pc 64 then (bif Nat.beq pc 64 then some (.putfield 48, 67, 0, 4, 5, 151) else none) else (bif Nat.beq pc 67 then some (.aload_n 0, 68, 0, 0, 0, 0) else none))))) else (bif Nat.ble pc 77 then (bif Nat.ble pc 72 then (bif Nat.ble pc 68 then (bif Nat.beq pc 68 then some (.aload_n 1, 69, 0, 0, 0, 0) else none) else (bif Nat.ble pc 69 then (bif Nat.beq pc 69 then some (.getfield 51, 72, 0, 4, 6, 153) else none) else (bif Nat.beq pc 72 then some (.putfield 51, 75, 0, 4, 6, 153) else none))) else (bif Nat.ble pc 75 then (bif Nat.beq pc 75 then some (.aload_n 0, 76, 0, 0, 0, 0) else none) else (bif Nat.ble pc 76 then (bif Nat.beq pc 76 then some (.aload_n 1, 77, 0, 0, 0, 0) else none) else (bif Nat.beq pc 77 then some (.getfield 54, 80, 0, 4, 7, 155) else none)))) else (bif Nat.ble pc 84 then (bif Nat.ble pc 80 then (bif Nat.beq pc 80 then some (.putfield 54, 83, 0, 4, 7, 155) else none) else (bif Nat.ble pc 83 then (bif Nat.beq pc 83 then some (.aload_n 0, 84, 0, 0, 0, 0) else none) else (bif Nat.beq pc 84 then some (.aload_n 1, 85, 0, 0, 0, 0) else none))) else (bif Nat.ble pc 85 then (bif Nat.beq pc 85 then some (.getfield 57, 88, 0, 4, 8, 157) else none) else (bif Nat.ble pc 88 then (bif Nat.beq pc 88 then some (.putfield 57, 91, 0, 4, 8, 157) else none) else (bif Nat.beq pc 91 then some (.return_, 92, 0, 0, 0, 0) else none)))))))
set_option maxRecDepth 100000 in
def fp_k35 (pc : Nat) : Option FpE := (bif Nat.ble pc 13 then (bif Nat.ble pc 5 then (bif Nat.ble pc 1 then (bif Nat.ble pc 0 then (bif Nat.beq pc 0 then some (.iload_n 2, 1, 0, 0, 0, 0) else none) else (bif Nat.beq pc 1 then some (.invokestatic 76, 4, 1, 80, 1, 448) else none)) else (bif Nat.ble pc 4 then (bif Nat.beq pc 4 then some (.aload_n 0, 5, 0, 0, 0, 0) else none) else (bif Nat.beq pc 5 then some (.getfield 21, 8, 0, 4, 1, 143) else none))) else (bif Nat.ble pc 11 then (bif Nat.ble pc 8 then (bif Nat.beq pc 8 then some (.getfield 80, 11, 0, 5, 1, 95) else none) else (bif Nat.beq pc 11 then some (.iload_n 1, 12, 0, 0, 0, 0) else none)) else (bif Nat.ble pc 12 then (bif Nat.beq pc 12 then some (.iaload, 13, 0, 0, 0, 0) else none) else (bif Nat.beq pc 13 then some (.imul, 14, 0, 0, 0, 0) else none)))) else (bif Nat.ble pc 19 then (bif Nat.ble pc 15 then (bif Nat.ble pc 14 then (bif Nat.beq pc 14 then some (.aload_n 0, 15, 0, 0, 0, 0) else none) else (bif Nat.beq pc 15 then some (.getfield 41, 18, 0, 4, 3, 147) else none)) else (bif Nat.ble pc 18 then (bif Nat.beq pc 18 then some (.iconst 2, 19, 0, 0, 0, 0) else none) else (bif Nat.beq pc 19 then some (.iaload, 20, 0, 0, 0, 0) else none))) else (bif Nat.ble pc 23 then (bif Nat.ble pc 20 then (bif Nat.beq pc 20 then some (.if_icmp .le 7, 23, 27, 0, 0, 0) else none) else (bif Nat.beq pc 23 then some (.iconst 1, 24, 0, 0, 0, 0) else none)) else (bif Nat.ble pc 24 then (bif Nat.beq pc 24 then some (.goto 4, 27, 28, 0, 0, 0) else none) else (bif Nat.ble pc 27 then (bif Nat.beq pc 27 then some (.iconst 0, 28, 0, 0, 0, 0) else none) else (bif Nat.beq pc 28 then some (.ireturn, 29, 0, 0, 1, 0) else none))))))
set_option maxRecDepth 100000 in
def fp_k36 (pc : Nat) : Option FpE := (bif Nat.ble pc 8 then (bif Nat.ble pc 2 then (bif Nat.ble pc 0 then (bif Nat.beq pc 0 then some (.iconst 3, 1, 0, 0, 0, 0) else none) else (bif Nat.ble pc 1 then (bif Nat.beq pc 1 then some (.istore_n 2, 2, 0, 0, 0, 0) else none) else (bif Nat.beq pc 2 then some (.iload_n 2, 3, 0, 0, 0, 0) else none))) else (bif Nat.ble pc 6 then (bif Nat.ble pc 3 then (bif Nat.beq pc 3 then some (.ifCond .lt 20, 6, 23, 0, 0, 0) else none) else (bif Nat.beq pc 6 then some (.aload_n 0, 7, 0, 0, 0, 0) else none)) else (bif Nat.ble pc 7 then (bif Nat.beq pc 7 then some (.iload_n 1, 8, 0, 0, 0, 0) else none) else (bif Nat.beq pc 8 then some (.iload_n 2, 9, 0, 0, 0, 0) else none)))) else (bif Nat.ble pc 16 then (bif Nat.ble pc 12 then (bif Nat.ble pc 9 then (bif Nat.beq pc 9 then some (.invokevirtual 83, 12, 4, 35, 3, 444) else none) else (bif Nat.beq pc 12 then some (.ifCond .ne 5, 15, 17, 0, 0, 0) else none)) else (bif Nat.ble pc 15 then (bif Nat.beq pc 15 then some (.iload_n 2, 16, 0, 0, 0, 0) else none) else (bif Nat.beq pc 16 then some (.ireturn, 17, 0, 0, 0, 0) else none))) else (bif Nat.ble pc 20 then (bif Nat.ble pc 17 then (bif Nat.beq pc 17 then some (.iinc 2 (-1), 20, 0, 0, 0, 0) else none) else (bif Nat.beq pc 20 then some (.goto (-18), 23, 2, 0, 0, 0) else none)) else (bif Nat.ble pc 23 then (bif Nat.beq pc 23 then some (.bipush (-5), 25, 0, 0, 0, 0) else none) else (bif Nat.beq pc 25 then some (.ireturn, 26, 0, 0, 0, 0) else none)))))
set_option maxRecDepth 100000 in
def fp_k37 (pc : Nat) : Option FpE := (bif Nat.ble pc 16 then (bif Nat.ble pc 8 then (bif Nat.ble pc 1 then (bif Nat.ble pc 0 then (bif Nat.beq pc 0 then some (.aload_n 0, 1, 0, 0, 0, 0) else none) else (bif Nat.beq pc 1 then some (.getfield 12, 4, 0, 4, 0, 141) else none)) else (bif Nat.ble pc 4 then (bif Nat.beq pc 4 then some (.iload_n 1, 5, 0, 0, 0, 0) else none) else (bif Nat.ble pc 5 then (bif Nat.beq pc 5 then some (.invokevirtual 87, 8, 2, 15, 2, 455) else none) else (bif Nat.beq pc 8 then some (.aload_n 0, 9, 0, 0, 0, 0) else none)))) else (bif Nat.ble pc 13 then (bif Nat.ble pc 9 then (bif Nat.beq pc 9 then some (.getfield 41, 12, 0, 4, 3, 147) else none) else (bif Nat.ble pc 12 then (bif Nat.beq pc 12 then some (.iconst 0, 13, 0, 0, 0, 0) else none) else (bif Nat.beq pc 13 then some (.iaload, 14, 0, 0, 0, 0) else none))) else (bif Nat.ble pc 14 then (bif Nat.beq pc 14 then some (.iadd, 15, 0, 0, 0, 0) else none) else (bif Nat.ble pc 15 then (bif Nat.beq pc 15 then some (.iload_n 2, 16, 0, 0, 0, 0) else none) else (bif Nat.beq pc 16 then some (.aload_n 0, 17, 0, 0, 0, 0) else none))))) else (bif Nat.ble pc 23 then (bif Nat.ble pc 20 then (bif Nat.ble pc 17 then (bif Nat.beq pc 17 then some (.getfield 41, 20, 0, 4, 3, 147) else none) else (bif Nat.beq pc 20 then some (.iconst 1, 21, 0, 0, 0, 0) else none)) else (bif Nat.ble pc 21 then (bif Nat.beq pc 21 then some (.iaload, 22, 0, 0, 0, 0) else none) else (bif Nat.ble pc 22 then (bif Nat.beq pc 22 then some (.imul, 23, 0, 0, 0, 0) else none) else (bif Nat.beq pc 23 then some (.iadd, 24, 0, 0, 0, 0) else none)))) else (bif Nat.ble pc 26 then (bif Nat.ble pc 24 then (bif Nat.beq pc 24 then some (.istore_n 3, 25, 0, 0, 0, 0) else none) else (bif Nat.ble pc 25 then (bif Nat.beq pc 25 then some (.iload_n 2, 26, 0, 0, 0, 0) else none) else (bif Nat.beq pc 26 then some (.invokestatic 76, 29, 1, 80, 1, 448) else none))) else (bif Nat.ble pc 29 then (bif Nat.beq pc 29 then some (.iload_n 3, 30, 0, 0, 0, 0) else none) else (bif Nat.ble pc 30 then (bif Nat.beq pc 30 then some (.imul, 31, 0, 0, 0, 0) else none) else (bif Nat.beq pc 31 then some (.ireturn, 32, 0, 0, 0, 0) else none))))))
set_option maxRecDepth 100000 in
def fp_k38 (pc : Nat) : Option FpE := (bif Nat.ble pc 13 then (bif Nat.ble pc 6 then (bif Nat.ble pc 1 then (bif Nat.ble pc 0 then (bif Nat.beq pc 0 then some (.aload_n 0, 1, 0, 0, 0, 0) else none) else (bif Nat.beq pc 1 then some (.iload_n 2, 2, 0, 0, 0, 0) else none)) else (bif Nat.ble pc 2 then (bif Nat.beq pc 2 then some (.iload_n 3, 3, 0, 0, 0, 0) else none) else (bif Nat.ble pc 3 then (bif Nat.beq pc 3 then some (.invokevirtual 83, 6, 4, 35, 3, 444) else none) else (bif Nat.beq pc 6 then some (.ifCond .eq 5, 9, 11, 0, 0, 0) else none)))) else (bif Nat.ble pc 10 then (bif Nat.ble pc 9 then (bif Nat.beq pc 9 then some (.iconst 1, 10, 0, 0, 0, 0) else none) else (bif Nat.beq pc 10 then some (.ireturn, 11, 0, 0, 0, 0) else none)) else (bif Nat.ble pc 11 then (bif Nat.beq pc 11 then some (.aload_n 0, 12, 0, 0, 0, 0) else none) else (bif Nat.ble pc 12 then (bif Nat.beq pc 12 then some (.iload_n 1, 13, 0, 0, 0, 0) else none) else (bif Nat.beq pc 13 then some (.iload_n 3, 14, 0, 0, 0, 0) else none))))) else (bif Nat.ble pc 24 then (bif Nat.ble pc 17 then (bif Nat.ble pc 14 then (bif Nat.beq pc 14 then some (.invokevirtual 90, 17, 4, 37, 3, 451) else none) else (bif Nat.beq pc 17 then some (.aload_n 0, 18, 0, 0, 0, 0) else none)) else (bif Nat.ble pc 18 then (bif Nat.beq pc 18 then some (.getfield 21, 21, 0, 4, 1, 143) else none) else (bif Nat.ble pc 21 then (bif Nat.beq pc 21 then some (.getfield 94, 24, 0, 5, 0, 93) else none) else (bif Nat.beq pc 24 then some (.iload_n 2, 25, 0, 0, 0, 0) else none)))) else (bif Nat.ble pc 29 then (bif Nat.ble pc 25 then (bif Nat.beq pc 25 then some (.iaload, 26, 0, 0, 0, 0) else none) else (bif Nat.ble pc 26 then (bif Nat.beq pc 26 then some (.if_icmp .le 7, 29, 33, 0, 0, 0) else none) else (bif Nat.beq pc 29 then some (.iconst 2, 30, 0, 0, 0, 0) else none))) else (bif Nat.ble pc 30 then (bif Nat.beq pc 30 then some (.goto 4, 33, 34, 0, 0, 0) else none) else (bif Nat.ble pc 33 then (bif Nat.beq pc 33 then some (.iconst 0, 34, 0, 0, 0, 0) else none) else (bif Nat.beq pc 34 then some (.ireturn, 35, 0, 0, 0, 0) else none))))))
set_option maxRecDepth 100000 in
def fp_k39 (pc : Nat) : Option FpE := (bif Nat.ble pc 44 then (bif Nat.ble pc 20 then (bif Nat.ble pc 8 then (bif Nat.ble pc 2 then (bif Nat.ble pc 0 then (bif Nat.beq pc 0 then some (.aload_n 0, 1, 0, 0, 0, 0) else none) else (bif Nat.ble pc 1 then (bif Nat.beq pc 1 then some (.iload_n 1, 2, 0, 0, 0, 0) else none) else (bif Nat.beq pc 2 then some (.iload_n 3, 3, 0, 0, 0, 0) else none))) else (bif Nat.ble pc 3 then (bif Nat.beq pc 3 then some (.invokevirtual 90, 6, 4, 37, 3, 451) else none) else (bif Nat.ble pc 6 then (bif Nat.beq pc 6 then some (.istore 4, 8, 0, 0, 0, 0) else none) else (bif Nat.beq pc 8 then some (.aload_n 0, 9, 0, 0, 0, 0) else none)))) else (bif Nat.ble pc 13 then (bif Nat.ble pc 9 then (bif Nat.beq pc 9 then some (.getfield 21, 12, 0, 4, 1, 143) else none) else (bif Nat.ble pc 12 then (bif Nat.beq pc 12 then some (.iload_n 2, 13, 0, 0, 0, 0) else none) else (bif Nat.beq pc 13 then some (.iload 4, 15, 0, 0, 0, 0) else none))) else (bif Nat.ble pc 18 then (bif Nat.ble pc 15 then (bif Nat.beq pc 15 then some (.invokevirtual 97, 18, 5, 48, 3, 466) else none) else (bif Nat.beq pc 18 then some (.aload_n 0, 19, 0, 0, 0, 0) else none)) else (bif Nat.ble pc 19 then (bif Nat.beq pc 19 then some (.dup, 20, 0, 0, 0, 0) else none) else (bif Nat.beq pc 20 then some (.getfield 57, 23, 0, 4, 8, 157) else none))))) else (bif Nat.ble pc 33 then (bif Nat.ble pc 26 then (bif Nat.ble pc 23 then (bif Nat.beq pc 23 then some (.iload 4, 25, 0, 0, 0, 0) else none) else (bif Nat.ble pc 25 then (bif Nat.beq pc 25 then some (.iadd, 26, 0, 0, 0, 0) else none) else (bif Nat.beq pc 26 then some (.putfield 57, 29, 0, 4, 8, 157) else none))) else (bif Nat.ble pc 29 then (bif Nat.beq pc 29 then some (.aload_n 0, 30, 0, 0, 0, 0) else none) else (bif Nat.ble pc 30 then (bif Nat.beq pc 30 then some (.getfield 12, 33, 0, 4, 0, 141) else none) else (bif Nat.beq pc 33 then some (.getfield 101, 36, 0, 2, 1, 62) else none)))) else (bif Nat.ble pc 38 then (bif Nat.ble pc 36 then (bif Nat.beq pc 36 then some (.iload_n 1, 37, 0, 0, 0, 0) else none) else (bif Nat.ble pc 37 then (bif Nat.beq pc 37 then some (.dup2, 38, 0, 0, 0, 0) else none) else (bif Nat.beq pc 38 then some (.iaload, 39, 0, 0, 0, 0) else none))) else (bif Nat.ble pc 40 then (bif Nat.ble pc 39 then (bif Nat.beq pc 39 then some (.iload_n 3, 40, 0, 0, 0, 0) else none) else (bif Nat.beq pc 40 then some (.invokestatic 104, 43, 1, 81, 1, 474) else none)) else (bif Nat.ble pc 43 then (bif Nat.beq pc 43 then some (.iadd, 44, 0, 0, 0, 0) else none) else (bif Nat.beq pc 44 then some (.iastore, 45, 0, 0, 0, 0) else none)))))) else (bif Nat.ble pc 65 then (bif Nat.ble pc 54 then (bif Nat.ble pc 49 then (bif Nat.ble pc 45 then (bif Nat.beq pc 45 then some (.aload_n 0, 46, 0, 0, 0, 0) else none) else (bif Nat.ble pc 46 then (bif Nat.beq pc 46 then some (.getfield 12, 49, 0, 4, 0, 141) else none) else (bif Nat.beq pc 49 then some (.getfield 107, 52, 0, 2, 2, 65) else none))) else (bif Nat.ble pc 52 then (bif Nat.beq pc 52 then some (.iload_n 1, 53, 0, 0, 0, 0) else none) else (bif Nat.ble pc 53 then (bif Nat.beq pc 53 then some (.dup2, 54, 0, 0, 0, 0) else none) else (bif Nat.beq pc 54 then some (.iaload, 55, 0, 0, 0, 0) else none)))) else (bif Nat.ble pc 59 then (bif Nat.ble pc 55 then (bif Nat.beq pc 55 then some (.iload_n 3, 56, 0, 0, 0, 0) else none) else (bif Nat.ble pc 56 then (bif Nat.beq pc 56 then some (.invokestatic 110, 59, 1, 82, 1, 478) else none) else (bif Nat.beq pc 59 then some (.iadd, 60, 0, 0, 0, 0) else none))) else (bif Nat.ble pc 61 then (bif Nat.ble pc 60 then (bif Nat.beq pc 60 then some (.iastore, 61, 0, 0, 0, 0) else none) else (bif Nat.beq pc 61 then some (.aload_n 0, 62, 0, 0, 0, 0) else none)) else (bif Nat.ble pc 62 then (bif Nat.beq pc 62 then some (.getfield 12, 65, 0, 4, 0, 141) else none) else (bif Nat.beq pc 65 then some (.getfield 113, 68, 0, 2, 3, 68) else none))))) else (bif Nat.ble pc 75 then (bif Nat.ble pc 70 then (bif Nat.ble pc 68 then (bif Nat.beq pc 68 then some (.iload_n 1, 69, 0, 0, 0, 0) else none) else (bif Nat.ble pc 69 then (bif Nat.beq pc 69 then some (.dup2, 70, 0, 0, 0, 0) else none) else (bif Nat.beq pc 70 then some (.iaload, 71, 0, 0, 0, 0) else none))) else (bif Nat.ble pc 71 then (bif Nat.beq pc 71 then some (.iload_n 3, 72, 0, 0, 0, 0) else none) else (bif Nat.ble pc 72 then (bif Nat.beq pc 72 then some (.invokestatic 76, 75, 1, 80, 1, 448) else none) else (bif Nat.beq pc 75 then some (.iadd, 76, 0, 0, 0, 0) else none)))) else (bif Nat.ble pc 78 then (bif Nat.ble pc 76 then (bif Nat.beq pc 76 then some (.iastore, 77, 0, 0, 0, 0) else none) else (bif Nat.ble pc 77 then (bif Nat.beq pc 77 then some (.aload_n 0, 78, 0, 0, 0, 0) else none) else (bif Nat.beq pc 78 then some (.iconst 1, 79, 0, 0, 0, 0) else none))) else (bif Nat.ble pc 80 then (bif Nat.ble pc 79 then (bif Nat.beq pc 79 then some (.iload_n 3, 80, 0, 0, 0, 0) else none) else (bif Nat.beq pc 80 then some (.iadd, 81, 0, 0, 0, 0) else none)) else (bif Nat.ble pc 81 then (bif Nat.beq pc 81 then some (.invokevirtual 116, 84, 4, 40, 2, 481) else none) else (bif Nat.beq pc 84 then some (.return_, 85, 0, 0, 0, 0) else none)))))))
set_option maxRecDepth 100000 in
def fp_k40 (pc : Nat) : Option FpE := (bif Nat.ble pc 11 then (bif Nat.ble pc 5 then (bif Nat.ble pc 1 then (bif Nat.ble pc 0 then (bif Nat.beq pc 0 then some (.aload_n 0, 1, 0, 0, 0, 0) else none) else (bif Nat.beq pc 1 then some (.dup, 2, 0, 0, 0, 0) else none)) else (bif Nat.ble pc 2 then (bif Nat.beq pc 2 then some (.getfield 48, 5, 0, 4, 5, 151) else none) else (bif Nat.beq pc 5 then some (.iload_n 1, 6, 0, 0, 0, 0) else none))) else (bif Nat.ble pc 7 then (bif Nat.ble pc 6 then (bif Nat.beq pc 6 then some (.iadd, 7, 0, 0, 0, 0) else none) else (bif Nat.beq pc 7 then some (.putfield 48, 10, 0, 4, 5, 151) else none)) else (bif Nat.ble pc 10 then (bif Nat.beq pc 10 then some (.aload_n 0, 11, 0, 0, 0, 0) else none) else (bif Nat.beq pc 11 then some (.dup, 12, 0, 0, 0, 0) else none)))) else (bif Nat.ble pc 19 then (bif Nat.ble pc 15 then (bif Nat.ble pc 12 then (bif Nat.beq pc 12 then some (.getfield 54, 15, 0, 4, 7, 155) else none) else (bif Nat.beq pc 15 then some (.aload_n 0, 16, 0, 0, 0, 0) else none)) else (bif Nat.ble pc 16 then (bif Nat.beq pc 16 then some (.getfield 28, 19, 0, 4, 2, 145) else none) else (bif Nat.beq pc 19 then some (.iload_n 1, 20, 0, 0, 0, 0) else none))) else (bif Nat.ble pc 23 then (bif Nat.ble pc 20 then (bif Nat.beq pc 20 then some (.invokevirtual 120, 23, 1, 8, 2, 485) else none) else (bif Nat.beq pc 23 then some (.iadd, 24, 0, 0, 0, 0) else none)) else (bif Nat.ble pc 24 then (bif Nat.beq pc 24 then some (.putfield 54, 27, 0, 4, 7, 155) else none) else (bif Nat.beq pc 27 then some (.return_, 28, 0, 0, 0, 0) else none)))))
set_option maxRecDepth 100000 in
def fp_k41 (pc : Nat) : Option FpE := (bif Nat.ble pc 29 then (bif Nat.ble pc 14 then (bif Nat.ble pc 7 then (bif Nat.ble pc 1 then (bif Nat.ble pc 0 then (bif Nat.beq pc 0 then some (.aload_n 0, 1, 0, 0, 0, 0) else none) else (bif Nat.beq pc 1 then some (.getfield 28, 4, 0, 4, 2, 145) else none)) else (bif Nat.ble pc 4 then (bif Nat.beq pc 4 then some (.getfield 123, 7, 0, 1, 0, 113) else none) else (bif Nat.beq pc 7 then some (.iload_n 1, 8, 0, 0, 0, 0) else none))) else (bif Nat.ble pc 9 then (bif Nat.ble pc 8 then (bif Nat.beq pc 8 then some (.iaload, 9, 0, 0, 0, 0) else none) else (bif Nat.beq pc 9 then some (.istore_n 2, 10, 0, 0, 0, 0) else none)) else (bif Nat.ble pc 10 then (bif Nat.beq pc 10 then some (.aload_n 0, 11, 0, 0, 0, 0) else none) else (bif Nat.ble pc 11 then (bif Nat.beq pc 11 then some (.getfield 28, 14, 0, 4, 2, 145) else none) else (bif Nat.beq pc 14 then some (.getfield 125, 17, 0, 1, 1, 116) else none))))) else (bif Nat.ble pc 20 then (bif Nat.ble pc 18 then (bif Nat.ble pc 17 then (bif Nat.beq pc 17 then some (.iload_n 1, 18, 0, 0, 0, 0) else none) else (bif Nat.beq pc 18 then some (.iaload, 19, 0, 0, 0, 0) else none)) else (bif Nat.ble pc 19 then (bif Nat.beq pc 19 then some (.istore_n 3, 20, 0, 0, 0, 0) else none) else (bif Nat.beq pc 20 then some (.iconst 0, 21, 0, 0, 0, 0) else none))) else (bif Nat.ble pc 23 then (bif Nat.ble pc 21 then (bif Nat.beq pc 21 then some (.istore 4, 23, 0, 0, 0, 0) else none) else (bif Nat.beq pc 23 then some (.iload 4, 25, 0, 0, 0, 0) else none)) else (bif Nat.ble pc 25 then (bif Nat.beq pc 25 then some (.aload_n 0, 26, 0, 0, 0, 0) else none) else (bif Nat.ble pc 26 then (bif Nat.beq pc 26 then some (.getfield 12, 29, 0, 4, 0, 141) else none) else (bif Nat.beq pc 29 then some (.getfield 128, 32, 0, 2, 4, 71) else none)))))) else (bif Nat.ble pc 49 then (bif Nat.ble pc 39 then (bif Nat.ble pc 35 then (bif Nat.ble pc 32 then (bif Nat.beq pc 32 then some (.if_icmp .ge 38, 35, 70, 0, 0, 0) else none) else (bif Nat.beq pc 35 then some (.aload_n 0, 36, 0, 0, 0, 0) else none)) else (bif Nat.ble pc 36 then (bif Nat.beq pc 36 then some (.getfield 12, 39, 0, 4, 0, 141) else none) else (bif Nat.beq pc 39 then some (.iload 4, 41, 0, 0, 0, 0) else none))) else (bif Nat.ble pc 42 then (bif Nat.ble pc 41 then (bif Nat.beq pc 41 then some (.iload_n 2, 42, 0, 0, 0, 0) else none) else (bif Nat.beq pc 42 then some (.invokevirtual 131, 45, 2, 18, 3, 403) else none)) else (bif Nat.ble pc 45 then (bif Nat.beq pc 45 then some (.ifCond .eq 19, 48, 64, 0, 0, 0) else none) else (bif Nat.ble pc 48 then (bif Nat.beq pc 48 then some (.aload_n 0, 49, 0, 0, 0, 0) else none) else (bif Nat.beq pc 49 then some (.getfield 12, 52, 0, 4, 0, 141) else none))))) else (bif Nat.ble pc 61 then (bif Nat.ble pc 54 then (bif Nat.ble pc 52 then (bif Nat.beq pc 52 then some (.iload 4, 54, 0, 0, 0, 0) else none) else (bif Nat.beq pc 54 then some (.iload_n 3, 55, 0, 0, 0, 0) else none)) else (bif Nat.ble pc 55 then (bif Nat.beq pc 55 then some (.invokevirtual 134, 58, 2, 23, 3, 407) else none) else (bif Nat.ble pc 58 then (bif Nat.beq pc 58 then some (.ifCond .eq 6, 61, 64, 0, 0, 0) else none) else (bif Nat.beq pc 61 then some (.iload 4, 63, 0, 0, 0, 0) else none)))) else (bif Nat.ble pc 64 then (bif Nat.ble pc 63 then (bif Nat.beq pc 63 then some (.ireturn, 64, 0, 0, 0, 0) else none) else (bif Nat.beq pc 64 then some (.iinc 4 1, 67, 0, 0, 0, 0) else none)) else (bif Nat.ble pc 67 then (bif Nat.beq pc 67 then some (.goto (-44), 70, 23, 0, 0, 0) else none) else (bif Nat.ble pc 70 then (bif Nat.beq pc 70 then some (.bipush (-5), 72, 0, 0, 0, 0) else none) else (bif Nat.beq pc 72 then some (.ireturn, 73, 0, 0, 0, 0) else none)))))))
set_option maxRecDepth 100000 in
def fp_k42 (pc : Nat) : Option FpE := (bif Nat.ble pc 25 then (bif Nat.ble pc 11 then (bif Nat.ble pc 7 then (bif Nat.ble pc 1 then (bif Nat.ble pc 0 then (bif Nat.beq pc 0 then some (.aload_n 0, 1, 0, 0, 0, 0) else none) else (bif Nat.beq pc 1 then some (.getfield 28, 4, 0, 4, 2, 145) else none)) else (bif Nat.ble pc 4 then (bif Nat.beq pc 4 then some (.getfield 125, 7, 0, 1, 1, 116) else none) else (bif Nat.beq pc 7 then some (.iload_n 1, 8, 0, 0, 0, 0) else none))) else (bif Nat.ble pc 9 then (bif Nat.ble pc 8 then (bif Nat.beq pc 8 then some (.iaload, 9, 0, 0, 0, 0) else none) else (bif Nat.beq pc 9 then some (.istore_n 3, 10, 0, 0, 0, 0) else none)) else (bif Nat.ble pc 10 then (bif Nat.beq pc 10 then some (.aload_n 0, 11, 0, 0, 0, 0) else none) else (bif Nat.beq pc 11 then some (.getfield 12, 14, 0, 4, 0, 141) else none)))) else (bif Nat.ble pc 19 then (bif Nat.ble pc 15 then (bif Nat.ble pc 14 then (bif Nat.beq pc 14 then some (.iload_n 2, 15, 0, 0, 0, 0) else none) else (bif Nat.beq pc 15 then some (.iload_n 3, 16, 0, 0, 0, 0) else none)) else (bif Nat.ble pc 16 then (bif Nat.beq pc 16 then some (.invokevirtual 137, 19, 2, 24, 3, 415) else none) else (bif Nat.beq pc 19 then some (.aload_n 0, 20, 0, 0, 0, 0) else none))) else (bif Nat.ble pc 21 then (bif Nat.ble pc 20 then (bif Nat.beq pc 20 then some (.dup, 21, 0, 0, 0, 0) else none) else (bif Nat.beq pc 21 then some (.getfield 44, 24, 0, 4, 4, 149) else none)) else (bif Nat.ble pc 24 then (bif Nat.beq pc 24 then some (.iload_n 3, 25, 0, 0, 0, 0) else none) else (bif Nat.beq pc 25 then some (.iconst 2, 26, 0, 0, 0, 0) else none))))) else (bif Nat.ble pc 39 then (bif Nat.ble pc 33 then (bif Nat.ble pc 29 then (bif Nat.ble pc 26 then (bif Nat.beq pc 26 then some (.if_icmp .ne 7, 29, 33, 0, 0, 0) else none) else (bif Nat.beq pc 29 then some (.iconst 5, 30, 0, 0, 0, 0) else none)) else (bif Nat.ble pc 30 then (bif Nat.beq pc 30 then some (.goto 4, 33, 34, 0, 0, 0) else none) else (bif Nat.beq pc 33 then some (.iconst 2, 34, 0, 0, 0, 0) else none))) else (bif Nat.ble pc 35 then (bif Nat.ble pc 34 then (bif Nat.beq pc 34 then some (.iadd, 35, 0, 0, 0, 0) else none) else (bif Nat.beq pc 35 then some (.putfield 44, 38, 0, 4, 4, 149) else none)) else (bif Nat.ble pc 38 then (bif Nat.beq pc 38 then some (.aload_n 0, 39, 0, 0, 0, 0) else none) else (bif Nat.beq pc 39 then some (.dup, 40, 0, 0, 0, 0) else none)))) else (bif Nat.ble pc 45 then (bif Nat.ble pc 43 then (bif Nat.ble pc 40 then (bif Nat.beq pc 40 then some (.getfield 51, 43, 0, 4, 6, 153) else none) else (bif Nat.beq pc 43 then some (.iconst 1, 44, 0, 0, 0, 0) else none)) else (bif Nat.ble pc 44 then (bif Nat.beq pc 44 then some (.iadd, 45, 0, 0, 0, 0) else none) else (bif Nat.beq pc 45 then some (.putfield 51, 48, 0, 4, 6, 153) else none))) else (bif Nat.ble pc 49 then (bif Nat.ble pc 48 then (bif Nat.beq pc 48 then some (.aload_n 0, 49, 0, 0, 0, 0) else none) else (bif Nat.beq pc 49 then some (.getfield 28, 52, 0, 4, 2, 145) else none)) else (bif Nat.ble pc 52 then (bif Nat.beq pc 52 then some (.iload_n 1, 53, 0, 0, 0, 0) else none) else (bif Nat.ble pc 53 then (bif Nat.beq pc 53 then some (.invokevirtual 140, 56, 1, 7, 2, 419) else none) else (bif Nat.beq pc 56 then some (.return_, 57, 0, 0, 0, 0) else none)))))))
set_option maxRecDepth 100000 in
def fp_k43 (pc : Nat) : Option FpE := (bif Nat.ble pc 24 then (bif Nat.ble pc 11 then (bif Nat.ble pc 7 then (bif Nat.ble pc 1 then (bif Nat.ble pc 0 then (bif Nat.beq pc 0 then some (.aload_n 0, 1, 0, 0, 0, 0) else none) else (bif Nat.beq pc 1 then some (.getfield 28, 4, 0, 4, 2, 145) else none)) else (bif Nat.ble pc 4 then (bif Nat.beq pc 4 then some (.getfield 143, 7, 0, 1, 3, 122) else none) else (bif Nat.beq pc 7 then some (.istore_n 1, 8, 0, 0, 0, 0) else none))) else (bif Nat.ble pc 9 then (bif Nat.ble pc 8 then (bif Nat.beq pc 8 then some (.iconst 0, 9, 0, 0, 0, 0) else none) else (bif Nat.beq pc 9 then some (.istore_n 2, 10, 0, 0, 0, 0) else none)) else (bif Nat.ble pc 10 then (bif Nat.beq pc 10 then some (.iconst 0, 11, 0, 0, 0, 0) else none) else (bif Nat.beq pc 11 then some (.istore_n 3, 12, 0, 0, 0, 0) else none)))) else (bif Nat.ble pc 17 then (bif Nat.ble pc 13 then (bif Nat.ble pc 12 then (bif Nat.beq pc 12 then some (.iload_n 3, 13, 0, 0, 0, 0) else none) else (bif Nat.beq pc 13 then some (.iload_n 1, 14, 0, 0, 0, 0) else none)) else (bif Nat.ble pc 14 then (bif Nat.beq pc 14 then some (.if_icmp .ge 36, 17, 50, 0, 0, 0) else none) else (bif Nat.beq pc 17 then some (.aload_n 0, 18, 0, 0, 0, 0) else none))) else (bif Nat.ble pc 19 then (bif Nat.ble pc 18 then (bif Nat.beq pc 18 then some (.iload_n 2, 19, 0, 0, 0, 0) else none) else (bif Nat.beq pc 19 then some (.invokevirtual 144, 22, 4, 41, 2, 431) else none)) else (bif Nat.ble pc 22 then (bif Nat.beq pc 22 then some (.istore 4, 24, 0, 0, 0, 0) else none) else (bif Nat.beq pc 24 then some (.iload 4, 26, 0, 0, 0, 0) else none))))) else (bif Nat.ble pc 41 then (bif Nat.ble pc 34 then (bif Nat.ble pc 28 then (bif Nat.ble pc 26 then (bif Nat.beq pc 26 then some (.bipush (-5), 28, 0, 0, 0, 0) else none) else (bif Nat.beq pc 28 then some (.if_icmp .ne 9, 31, 37, 0, 0, 0) else none)) else (bif Nat.ble pc 31 then (bif Nat.beq pc 31 then some (.iinc 2 1, 34, 0, 0, 0, 0) else none) else (bif Nat.beq pc 34 then some (.goto 10, 37, 44, 0, 0, 0) else none))) else (bif Nat.ble pc 38 then (bif Nat.ble pc 37 then (bif Nat.beq pc 37 then some (.aload_n 0, 38, 0, 0, 0, 0) else none) else (bif Nat.beq pc 38 then some (.iload_n 2, 39, 0, 0, 0, 0) else none)) else (bif Nat.ble pc 39 then (bif Nat.beq pc 39 then some (.iload 4, 41, 0, 0, 0, 0) else none) else (bif Nat.beq pc 41 then some (.invokevirtual 147, 44, 4, 42, 3, 432) else none)))) else (bif Nat.ble pc 51 then (bif Nat.ble pc 47 then (bif Nat.ble pc 44 then (bif Nat.beq pc 44 then some (.iinc 3 1, 47, 0, 0, 0, 0) else none) else (bif Nat.beq pc 47 then some (.goto (-35), 50, 12, 0, 0, 0) else none)) else (bif Nat.ble pc 50 then (bif Nat.beq pc 50 then some (.iload_n 1, 51, 0, 0, 0, 0) else none) else (bif Nat.beq pc 51 then some (.aload_n 0, 52, 0, 0, 0, 0) else none))) else (bif Nat.ble pc 55 then (bif Nat.ble pc 52 then (bif Nat.beq pc 52 then some (.getfield 28, 55, 0, 4, 2, 145) else none) else (bif Nat.beq pc 55 then some (.getfield 143, 58, 0, 1, 3, 122) else none)) else (bif Nat.ble pc 58 then (bif Nat.beq pc 58 then some (.isub, 59, 0, 0, 0, 0) else none) else (bif Nat.beq pc 59 then some (.ireturn, 60, 0, 0, 0, 0) else none))))))
set_option maxRecDepth 100000 in
def fp_k44 (pc : Nat) : Option FpE := (bif Nat.ble pc 19 then (bif Nat.ble pc 9 then (bif Nat.ble pc 4 then (bif Nat.ble pc 0 then (bif Nat.beq pc 0 then some (.aload_n 1, 1, 0, 0, 0, 0) else none) else (bif Nat.ble pc 1 then (bif Nat.beq pc 1 then some (.getfield 9, 4, 0, 5, 0, 91) else none) else (bif Nat.beq pc 4 then some (.iconst 0, 5, 0, 0, 0, 0) else none))) else (bif Nat.ble pc 5 then (bif Nat.beq pc 5 then some (.aload_n 0, 6, 0, 0, 0, 0) else none) else (bif Nat.ble pc 6 then (bif Nat.beq pc 6 then some (.getfield 9, 9, 0, 5, 0, 91) else none) else (bif Nat.beq pc 9 then some (.iconst 0, 10, 0, 0, 0, 0) else none)))) else (bif Nat.ble pc 14 then (bif Nat.ble pc 10 then (bif Nat.beq pc 10 then some (.aload_n 0, 11, 0, 0, 0, 0) else none) else (bif Nat.ble pc 11 then (bif Nat.beq pc 11 then some (.getfield 9, 14, 0, 5, 0, 91) else none) else (bif Nat.beq pc 14 then some (.arraylength, 15, 0, 0, 0, 0) else none))) else (bif Nat.ble pc 15 then (bif Nat.beq pc 15 then some (.invokestatic 22, 18, 0, 900, 0, 283) else none) else (bif Nat.ble pc 18 then (bif Nat.beq pc 18 then some (.aload_n 1, 19, 0, 0, 0, 0) else none) else (bif Nat.beq pc 19 then some (.getfield 15, 22, 0, 5, 1, 94) else none))))) else (bif Nat.ble pc 29 then (bif Nat.ble pc 24 then (bif Nat.ble pc 22 then (bif Nat.beq pc 22 then some (.iconst 0, 23, 0, 0, 0, 0) else none) else (bif Nat.ble pc 23 then (bif Nat.beq pc 23 then some (.aload_n 0, 24, 0, 0, 0, 0) else none) else (bif Nat.beq pc 24 then some (.getfield 15, 27, 0, 5, 1, 94) else none))) else (bif Nat.ble pc 27 then (bif Nat.beq pc 27 then some (.iconst 0, 28, 0, 0, 0, 0) else none) else (bif Nat.ble pc 28 then (bif Nat.beq pc 28 then some (.aload_n 0, 29, 0, 0, 0, 0) else none) else (bif Nat.beq pc 29 then some (.getfield 15, 32, 0, 5, 1, 94) else none)))) else (bif Nat.ble pc 36 then (bif Nat.ble pc 32 then (bif Nat.beq pc 32 then some (.arraylength, 33, 0, 0, 0, 0) else none) else (bif Nat.ble pc 33 then (bif Nat.beq pc 33 then some (.invokestatic 22, 36, 0, 900, 0, 283) else none) else (bif Nat.beq pc 36 then some (.aload_n 0, 37, 0, 0, 0, 0) else none))) else (bif Nat.ble pc 38 then (bif Nat.ble pc 37 then (bif Nat.beq pc 37 then some (.aload_n 1, 38, 0, 0, 0, 0) else none) else (bif Nat.beq pc 38 then some (.getfield 18, 41, 0, 5, 2, 97) else none)) else (bif Nat.ble pc 41 then (bif Nat.beq pc 41 then some (.putfield 18, 44, 0, 5, 2, 97) else none) else (bif Nat.beq pc 44 then some (.return_, 45, 0, 0, 0, 0) else none))))))
set_option maxRecDepth 100000 in
def fp_k45 (pc : Nat) : Option FpE := (bif Nat.ble pc 6 then (bif Nat.ble pc 1 then (bif Nat.ble pc 0 then (bif Nat.beq pc 0 then some (.iload_n 1, 1, 0, 0, 0, 0) else none) else (bif Nat.beq pc 1 then some (.ifCond .lt 15, 4, 16, 0, 0, 0) else none)) else (bif Nat.ble pc 4 then (bif Nat.beq pc 4 then some (.iload_n 1, 5, 0, 0, 0, 0) else none) else (bif Nat.ble pc 5 then (bif Nat.beq pc 5 then some (.aload_n 0, 6, 0, 0, 0, 0) else none) else (bif Nat.beq pc 6 then some (.getfield 18, 9, 0, 5, 2, 97) else none)))) else (bif Nat.ble pc 12 then (bif Nat.ble pc 9 then (bif Nat.beq pc 9 then some (.if_icmp .ge 7, 12, 16, 0, 0, 0) else none) else (bif Nat.beq pc 12 then some (.iconst 1, 13, 0, 0, 0, 0) else none)) else (bif Nat.ble pc 13 then (bif Nat.beq pc 13 then some (.goto 4, 16, 17, 0, 0, 0) else none) else (bif Nat.ble pc 16 then (bif Nat.beq pc 16 then some (.iconst 0, 17, 0, 0, 0, 0) else none) else (bif Nat.beq pc 17 then some (.ireturn, 18, 0, 0, 1, 0) else none)))))
set_option maxRecDepth 100000 in
def fp_k46 (pc : Nat) : Option FpE := (bif Nat.ble pc 6 then (bif Nat.ble pc 1 then (bif Nat.ble pc 0 then (bif Nat.beq pc 0 then some (.aload_n 0, 1, 0, 0, 0, 0) else none) else (bif Nat.beq pc 1 then some (.getfield 18, 4, 0, 5, 2, 97) else none)) else (bif Nat.ble pc 4 then (bif Nat.beq pc 4 then some (.bipush 6, 6, 0, 0, 0, 0) else none) else (bif Nat.beq pc 6 then some (.if_icmp .lt 7, 9, 13, 0, 0, 0) else none))) else (bif Nat.ble pc 10 then (bif Nat.ble pc 9 then (bif Nat.beq pc 9 then some (.iconst 1, 10, 0, 0, 0, 0) else none) else (bif Nat.beq pc 10 then some (.goto 4, 13, 14, 0, 0, 0) else none)) else (bif Nat.ble pc 13 then (bif Nat.beq pc 13 then some (.iconst 0, 14, 0, 0, 0, 0) else none) else (bif Nat.beq pc 14 then some (.ireturn, 15, 0, 0, 1, 0) else none))))
set_option maxRecDepth 100000 in
def fp_k47 (pc : Nat) : Option FpE := (bif Nat.ble pc 13 then (bif Nat.ble pc 6 then (bif Nat.ble pc 1 then (bif Nat.ble pc 0 then (bif Nat.beq pc 0 then some (.aload_n 0, 1, 0, 0, 0, 0) else none) else (bif Nat.beq pc 1 then some (.getfield 18, 4, 0, 5, 2, 97) else none)) else (bif Nat.ble pc 4 then (bif Nat.beq pc 4 then some (.istore_n 3, 5, 0, 0, 0, 0) else none) else (bif Nat.ble pc 5 then (bif Nat.beq pc 5 then some (.aload_n 0, 6, 0, 0, 0, 0) else none) else (bif Nat.beq pc 6 then some (.getfield 9, 9, 0, 5, 0, 91) else none)))) else (bif Nat.ble pc 10 then (bif Nat.ble pc 9 then (bif Nat.beq pc 9 then some (.iload_n 3, 10, 0, 0, 0, 0) else none) else (bif Nat.beq pc 10 then some (.iload_n 1, 11, 0, 0, 0, 0) else none)) else (bif Nat.ble pc 11 then (bif Nat.beq pc 11 then some (.iastore, 12, 0, 0, 0, 0) else none) else (bif Nat.ble pc 12 then (bif Nat.beq pc 12 then some (.aload_n 0, 13, 0, 0, 0, 0) else none) else (bif Nat.beq pc 13 then some (.getfield 15, 16, 0, 5, 1, 94) else none))))) else (bif Nat.ble pc 20 then (bif Nat.ble pc 17 then (bif Nat.ble pc 16 then (bif Nat.beq pc 16 then some (.iload_n 3, 17, 0, 0, 0, 0) else none) else (bif Nat.beq pc 17 then some (.iload_n 2, 18, 0, 0, 0, 0) else none)) else (bif Nat.ble pc 18 then (bif Nat.beq pc 18 then some (.iastore, 19, 0, 0, 0, 0) else none) else (bif Nat.ble pc 19 then (bif Nat.beq pc 19 then some (.aload_n 0, 20, 0, 0, 0, 0) else none) else (bif Nat.beq pc 20 then some (.dup, 21, 0, 0, 0, 0) else none)))) else (bif Nat.ble pc 25 then (bif Nat.ble pc 21 then (bif Nat.beq pc 21 then some (.getfield 18, 24, 0, 5, 2, 97) else none) else (bif Nat.ble pc 24 then (bif Nat.beq pc 24 then some (.iconst 1, 25, 0, 0, 0, 0) else none) else (bif Nat.beq pc 25 then some (.iadd, 26, 0, 0, 0, 0) else none))) else (bif Nat.ble pc 26 then (bif Nat.beq pc 26 then some (.putfield 18, 29, 0, 5, 2, 97) else none) else (bif Nat.ble pc 29 then (bif Nat.beq pc 29 then some (.iload_n 3, 30, 0, 0, 0, 0) else none) else (bif Nat.beq pc 30 then some (.ireturn, 31, 0, 0, 0, 0) else none))))))
set_option maxRecDepth 100000 in
def fp_k48 (pc : Nat) : Option FpE := (bif Nat.ble pc 9 then (bif Nat.ble pc 5 then (bif Nat.ble pc 1 then (bif Nat.ble pc 0 then (bif Nat.beq pc 0 then some (.aload_n 0, 1, 0, 0, 0, 0) else none) else (bif Nat.beq pc 1 then some (.getfield 9, 4, 0, 5, 0, 91) else none)) else (bif Nat.ble pc 4 then (bif Nat.beq pc 4 then some (.iload_n 1, 5, 0, 0, 0, 0) else none) else (bif Nat.beq pc 5 then some (.dup2, 6, 0, 0, 0, 0) else none))) else (bif Nat.ble pc 7 then (bif Nat.ble pc 6 then (bif Nat.beq pc 6 then some (.iaload, 7, 0, 0, 0, 0) else none) else (bif Nat.beq pc 7 then some (.iload_n 2, 8, 0, 0, 0, 0) else none)) else (bif Nat.ble pc 8 then (bif Nat.beq pc 8 then some (.isub, 9, 0, 0, 0, 0) else none) else (bif Nat.beq pc 9 then some (.iastore, 10, 0, 0, 0, 0) else none)))) else (bif Nat.ble pc 15 then (bif Nat.ble pc 11 then (bif Nat.ble pc 10 then (bif Nat.beq pc 10 then some (.aload_n 0, 11, 0, 0, 0, 0) else none) else (bif Nat.beq pc 11 then some (.getfield 9, 14, 0, 5, 0, 91) else none)) else (bif Nat.ble pc 14 then (bif Nat.beq pc 14 then some (.iload_n 1, 15, 0, 0, 0, 0) else none) else (bif Nat.beq pc 15 then some (.iaload, 16, 0, 0, 0, 0) else none))) else (bif Nat.ble pc 19 then (bif Nat.ble pc 16 then (bif Nat.beq pc 16 then some (.ifCond .ne 8, 19, 24, 0, 0, 0) else none) else (bif Nat.beq pc 19 then some (.aload_n 0, 20, 0, 0, 0, 0) else none)) else (bif Nat.ble pc 20 then (bif Nat.beq pc 20 then some (.iload_n 1, 21, 0, 0, 0, 0) else none) else (bif Nat.ble pc 21 then (bif Nat.beq pc 21 then some (.invokevirtual 28, 24, 5, 49, 2, 470) else none) else (bif Nat.beq pc 24 then some (.return_, 25, 0, 0, 0, 0) else none))))))
set_option maxRecDepth 100000 in
def fp_k49 (pc : Nat) : Option FpE := (bif Nat.ble pc 22 then (bif Nat.ble pc 9 then (bif Nat.ble pc 5 then (bif Nat.ble pc 1 then (bif Nat.ble pc 0 then (bif Nat.beq pc 0 then some (.aload_n 0, 1, 0, 0, 0, 0) else none) else (bif Nat.beq pc 1 then some (.getfield 18, 4, 0, 5, 2, 97) else none)) else (bif Nat.ble pc 4 then (bif Nat.beq pc 4 then some (.iload_n 1, 5, 0, 0, 0, 0) else none) else (bif Nat.beq pc 5 then some (.isub, 6, 0, 0, 0, 0) else none))) else (bif Nat.ble pc 7 then (bif Nat.ble pc 6 then (bif Nat.beq pc 6 then some (.iconst 1, 7, 0, 0, 0, 0) else none) else (bif Nat.beq pc 7 then some (.isub, 8, 0, 0, 0, 0) else none)) else (bif Nat.ble pc 8 then (bif Nat.beq pc 8 then some (.istore_n 2, 9, 0, 0, 0, 0) else none) else (bif Nat.beq pc 9 then some (.aload_n 0, 10, 0, 0, 0, 0) else none)))) else (bif Nat.ble pc 15 then (bif Nat.ble pc 13 then (bif Nat.ble pc 10 then (bif Nat.beq pc 10 then some (.getfield 9, 13, 0, 5, 0, 91) else none) else (bif Nat.beq pc 13 then some (.iload_n 1, 14, 0, 0, 0, 0) else none)) else (bif Nat.ble pc 14 then (bif Nat.beq pc 14 then some (.iconst 1, 15, 0, 0, 0, 0) else none) else (bif Nat.beq pc 15 then some (.iadd, 16, 0, 0, 0, 0) else none))) else (bif Nat.ble pc 17 then (bif Nat.ble pc 16 then (bif Nat.beq pc 16 then some (.aload_n 0, 17, 0, 0, 0, 0) else none) else (bif Nat.beq pc 17 then some (.getfield 9, 20, 0, 5, 0, 91) else none)) else (bif Nat.ble pc 20 then (bif Nat.beq pc 20 then some (.iload_n 1, 21, 0, 0, 0, 0) else none) else (bif Nat.ble pc 21 then (bif Nat.beq pc 21 then some (.iload_n 2, 22, 0, 0, 0, 0) else none) else (bif Nat.beq pc 22 then some (.invokestatic 22, 25, 0, 900, 0, 283) else none)))))) else (bif Nat.ble pc 36 then (bif Nat.ble pc 30 then (bif Nat.ble pc 26 then (bif Nat.ble pc 25 then (bif Nat.beq pc 25 then some (.aload_n 0, 26, 0, 0, 0, 0) else none) else (bif Nat.beq pc 26 then some (.getfield 15, 29, 0, 5, 1, 94) else none)) else (bif Nat.ble pc 29 then (bif Nat.beq pc 29 then some (.iload_n 1, 30, 0, 0, 0, 0) else none) else (bif Nat.beq pc 30 then some (.iconst 1, 31, 0, 0, 0, 0) else none))) else (bif Nat.ble pc 32 then (bif Nat.ble pc 31 then (bif Nat.beq pc 31 then some (.iadd, 32, 0, 0, 0, 0) else none) else (bif Nat.beq pc 32 then some (.aload_n 0, 33, 0, 0, 0, 0) else none)) else (bif Nat.ble pc 33 then (bif Nat.beq pc 33 then some (.getfield 15, 36, 0, 5, 1, 94) else none) else (bif Nat.beq pc 36 then some (.iload_n 1, 37, 0, 0, 0, 0) else none)))) else (bif Nat.ble pc 42 then (bif Nat.ble pc 38 then (bif Nat.ble pc 37 then (bif Nat.beq pc 37 then some (.iload_n 2, 38, 0, 0, 0, 0) else none) else (bif Nat.beq pc 38 then some (.invokestatic 22, 41, 0, 900, 0, 283) else none)) else (bif Nat.ble pc 41 then (bif Nat.beq pc 41 then some (.aload_n 0, 42, 0, 0, 0, 0) else none) else (bif Nat.beq pc 42 then some (.dup, 43, 0, 0, 0, 0) else none))) else (bif Nat.ble pc 46 then (bif Nat.ble pc 43 then (bif Nat.beq pc 43 then some (.getfield 18, 46, 0, 5, 2, 97) else none) else (bif Nat.beq pc 46 then some (.iconst 1, 47, 0, 0, 0, 0) else none)) else (bif Nat.ble pc 47 then (bif Nat.beq pc 47 then some (.isub, 48, 0, 0, 0, 0) else none) else (bif Nat.ble pc 48 then (bif Nat.beq pc 48 then some (.putfield 18, 51, 0, 5, 2, 97) else none) else (bif Nat.beq pc 51 then some (.return_, 52, 0, 0, 0, 0) else none)))))))
set_option maxRecDepth 100000 in
def fp_k50 (pc : Nat) : Option FpE := (bif Nat.ble pc 12 then (bif Nat.ble pc 3 then (bif Nat.ble pc 1 then (bif Nat.ble pc 0 then (bif Nat.beq pc 0 then some (.iconst 0, 1, 0, 0, 0, 0) else none) else (bif Nat.beq pc 1 then some (.istore_n 1, 2, 0, 0, 0, 0) else none)) else (bif Nat.ble pc 2 then (bif Nat.beq pc 2 then some (.iconst 0, 3, 0, 0, 0, 0) else none) else (bif Nat.beq pc 3 then some (.istore_n 2, 4, 0, 0, 0, 0) else none))) else (bif Nat.ble pc 5 then (bif Nat.ble pc 4 then (bif Nat.beq pc 4 then some (.iload_n 2, 5, 0, 0, 0, 0) else none) else (bif Nat.beq pc 5 then some (.aload_n 0, 6, 0, 0, 0, 0) else none)) else (bif Nat.ble pc 6 then (bif Nat.beq pc 6 then some (.getfield 18, 9, 0, 5, 2, 97) else none) else (bif Nat.ble pc 9 then (bif Nat.beq pc 9 then some (.if_icmp .ge 18, 12, 27, 0, 0, 0) else none) else (bif Nat.beq pc 12 then some (.iload_n 1, 13, 0, 0, 0, 0) else none))))) else (bif Nat.ble pc 19 then (bif Nat.ble pc 14 then (bif Nat.ble pc 13 then (bif Nat.beq pc 13 then some (.aload_n 0, 14, 0, 0, 0, 0) else none) else (bif Nat.beq pc 14 then some (.getfield 9, 17, 0, 5, 0, 91) else none)) else (bif Nat.ble pc 17 then (bif Nat.beq pc 17 then some (.iload_n 2, 18, 0, 0, 0, 0) else none) else (bif Nat.ble pc 18 then (bif Nat.beq pc 18 then some (.iaload, 19, 0, 0, 0, 0) else none) else (bif Nat.beq pc 19 then some (.iadd, 20, 0, 0, 0, 0) else none)))) else (bif Nat.ble pc 21 then (bif Nat.ble pc 20 then (bif Nat.beq pc 20 then some (.istore_n 1, 21, 0, 0, 0, 0) else none) else (bif Nat.beq pc 21 then some (.iinc 2 1, 24, 0, 0, 0, 0) else none)) else (bif Nat.ble pc 24 then (bif Nat.beq pc 24 then some (.goto (-20), 27, 4, 0, 0, 0) else none) else (bif Nat.ble pc 27 then (bif Nat.beq pc 27 then some (.iload_n 1, 28, 0, 0, 0, 0) else none) else (bif Nat.beq pc 28 then some (.ireturn, 29, 0, 0, 0, 0) else none))))))
set_option maxRecDepth 100000 in
def fp_k51 (pc : Nat) : Option FpE := (bif Nat.ble pc 45 then (bif Nat.ble pc 22 then (bif Nat.ble pc 11 then (bif Nat.ble pc 2 then (bif Nat.ble pc 0 then (bif Nat.beq pc 0 then some (.iload_n 1, 1, 0, 0, 0, 0) else none) else (bif Nat.ble pc 1 then (bif Nat.beq pc 1 then some (.iconst 1, 2, 0, 0, 0, 0) else none) else (bif Nat.beq pc 2 then some (.sipush 200, 5, 0, 0, 0, 0) else none))) else (bif Nat.ble pc 5 then (bif Nat.beq pc 5 then some (.invokestatic 40, 8, 0, 77, 3, 257) else none) else (bif Nat.ble pc 8 then (bif Nat.beq pc 8 then some (.ifCond .eq 12, 11, 20, 0, 0, 0) else none) else (bif Nat.beq pc 11 then some (.iload_n 2, 12, 0, 0, 0, 0) else none)))) else (bif Nat.ble pc 14 then (bif Nat.ble pc 12 then (bif Nat.beq pc 12 then some (.iconst 1, 13, 0, 0, 0, 0) else none) else (bif Nat.ble pc 13 then (bif Nat.beq pc 13 then some (.iconst 3, 14, 0, 0, 0, 0) else none) else (bif Nat.beq pc 14 then some (.invokestatic 40, 17, 0, 77, 3, 257) else none))) else (bif Nat.ble pc 17 then (bif Nat.beq pc 17 then some (.ifCond .ne 6, 20, 23, 0, 0, 0) else none) else (bif Nat.ble pc 20 then (bif Nat.beq pc 20 then some (.bipush (-2), 22, 0, 0, 0, 0) else none) else (bif Nat.beq pc 22 then some (.ireturn, 23, 0, 0, 0, 0) else none))))) else (bif Nat.ble pc 36 then (bif Nat.ble pc 27 then (bif Nat.ble pc 23 then (bif Nat.beq pc 23 then some (.aload_n 0, 24, 0, 0, 0, 0) else none) else (bif Nat.ble pc 24 then (bif Nat.beq pc 24 then some (.getfield 10, 27, 0, 6, 0, 234) else none) else (bif Nat.beq pc 27 then some (.getfield 44, 30, 0, 4, 1, 144) else none))) else (bif Nat.ble pc 30 then (bif Nat.beq pc 30 then some (.invokevirtual 48, 33, 5, 46, 1, 260) else none) else (bif Nat.ble pc 33 then (bif Nat.beq pc 33 then some (.ifCond .eq 6, 36, 39, 0, 0, 0) else none) else (bif Nat.beq pc 36 then some (.bipush (-3), 38, 0, 0, 0, 0) else none)))) else (bif Nat.ble pc 40 then (bif Nat.ble pc 38 then (bif Nat.beq pc 38 then some (.ireturn, 39, 0, 0, 0, 0) else none) else (bif Nat.ble pc 39 then (bif Nat.beq pc 39 then some (.iload_n 2, 40, 0, 0, 0, 0) else none) else (bif Nat.beq pc 40 then some (.iload_n 1, 41, 0, 0, 0, 0) else none))) else (bif Nat.ble pc 43 then (bif Nat.ble pc 41 then (bif Nat.beq pc 41 then some (.bipush 20, 43, 0, 0, 0, 0) else none) else (bif Nat.beq pc 43 then some (.idiv, 44, 0, 0, 0, 0) else none)) else (bif Nat.ble pc 44 then (bif Nat.beq pc 44 then some (.iadd, 45, 0, 0, 0, 0) else none) else (bif Nat.beq pc 45 then some (.istore_n 3, 46, 0, 0, 0, 0) else none)))))) else (bif Nat.ble pc 71 then (bif Nat.ble pc 57 then (bif Nat.ble pc 48 then (bif Nat.ble pc 46 then (bif Nat.beq pc 46 then some (.iload_n 3, 47, 0, 0, 0, 0) else none) else (bif Nat.ble pc 47 then (bif Nat.beq pc 47 then some (.aload_n 0, 48, 0, 0, 0, 0) else none) else (bif Nat.beq pc 48 then some (.getfield 10, 51, 0, 6, 0, 234) else none))) else (bif Nat.ble pc 51 then (bif Nat.beq pc 51 then some (.getfield 54, 54, 0, 4, 4, 150) else none) else (bif Nat.ble pc 54 then (bif Nat.beq pc 54 then some (.if_icmp .le 6, 57, 60, 0, 0, 0) else none) else (bif Nat.beq pc 57 then some (.bipush (-4), 59, 0, 0, 0, 0) else none)))) else (bif Nat.ble pc 61 then (bif Nat.ble pc 59 then (bif Nat.beq pc 59 then some (.ireturn, 60, 0, 0, 0, 0) else none) else (bif Nat.ble pc 60 then (bif Nat.beq pc 60 then some (.aload_n 0, 61, 0, 0, 0, 0) else none) else (bif Nat.beq pc 61 then some (.getfield 29, 64, 0, 6, 4, 238) else none))) else (bif Nat.ble pc 65 then (bif Nat.ble pc 64 then (bif Nat.beq pc 64 then some (.aload_n 0, 65, 0, 0, 0, 0) else none) else (bif Nat.beq pc 65 then some (.getfield 10, 68, 0, 6, 0, 234) else none)) else (bif Nat.ble pc 68 then (bif Nat.beq pc 68 then some (.invokevirtual 58, 71, 0, 1, 2, 264) else none) else (bif Nat.beq pc 71 then some (.aload_n 0, 72, 0, 0, 0, 0) else none))))) else (bif Nat.ble pc 81 then (bif Nat.ble pc 76 then (bif Nat.ble pc 72 then (bif Nat.beq pc 72 then some (.getfield 10, 75, 0, 6, 0, 234) else none) else (bif Nat.ble pc 75 then (bif Nat.beq pc 75 then some (.dup, 76, 0, 0, 0, 0) else none) else (bif Nat.beq pc 76 then some (.getfield 54, 79, 0, 4, 4, 150) else none))) else (bif Nat.ble pc 79 then (bif Nat.beq pc 79 then some (.iload_n 3, 80, 0, 0, 0, 0) else none) else (bif Nat.ble pc 80 then (bif Nat.beq pc 80 then some (.isub, 81, 0, 0, 0, 0) else none) else (bif Nat.beq pc 81 then some (.putfield 54, 84, 0, 4, 4, 150) else none)))) else (bif Nat.ble pc 88 then (bif Nat.ble pc 84 then (bif Nat.beq pc 84 then some (.aload_n 0, 85, 0, 0, 0, 0) else none) else (bif Nat.ble pc 85 then (bif Nat.beq pc 85 then some (.getfield 10, 88, 0, 6, 0, 234) else none) else (bif Nat.beq pc 88 then some (.getfield 44, 91, 0, 4, 1, 144) else none))) else (bif Nat.ble pc 92 then (bif Nat.ble pc 91 then (bif Nat.beq pc 91 then some (.iload_n 1, 92, 0, 0, 0, 0) else none) else (bif Nat.beq pc 92 then some (.iload_n 2, 93, 0, 0, 0, 0) else none)) else (bif Nat.ble pc 93 then (bif Nat.beq pc 93 then some (.invokevirtual 62, 96, 5, 47, 3, 290) else none) else (bif Nat.beq pc 96 then some (.ireturn, 97, 0, 0, 0, 0) else none)))))))
set_option maxRecDepth 100000 in
def fp_k52 (pc : Nat) : Option FpE := (bif Nat.ble pc 46 then (bif Nat.ble pc 20 then (bif Nat.ble pc 9 then (bif Nat.ble pc 4 then (bif Nat.ble pc 0 then (bif Nat.beq pc 0 then some (.aload_n 0, 1, 0, 0, 0, 0) else none) else (bif Nat.ble pc 1 then (bif Nat.beq pc 1 then some (.getfield 10, 4, 0, 6, 0, 234) else none) else (bif Nat.beq pc 4 then some (.getfield 44, 7, 0, 4, 1, 144) else none))) else (bif Nat.ble pc 7 then (bif Nat.beq pc 7 then some (.astore_n 3, 8, 0, 0, 0, 0) else none) else (bif Nat.ble pc 8 then (bif Nat.beq pc 8 then some (.aload_n 3, 9, 0, 0, 0, 0) else none) else (bif Nat.beq pc 9 then some (.iload_n 1, 10, 0, 0, 0, 0) else none)))) else (bif Nat.ble pc 16 then (bif Nat.ble pc 10 then (bif Nat.beq pc 10 then some (.invokevirtual 66, 13, 5, 45, 2, 298) else none) else (bif Nat.ble pc 13 then (bif Nat.beq pc 13 then some (.ifCond .ne 5, 16, 18, 0, 0, 0) else none) else (bif Nat.beq pc 16 then some (.iconst (-1), 17, 0, 0, 0, 0) else none))) else (bif Nat.ble pc 18 then (bif Nat.ble pc 17 then (bif Nat.beq pc 17 then some (.ireturn, 18, 0, 0, 0, 0) else none) else (bif Nat.beq pc 18 then some (.iload_n 2, 19, 0, 0, 0, 0) else none)) else (bif Nat.ble pc 19 then (bif Nat.beq pc 19 then some (.iconst 1, 20, 0, 0, 0, 0) else none) else (bif Nat.beq pc 20 then some (.iconst 3, 21, 0, 0, 0, 0) else none))))) else (bif Nat.ble pc 34 then (bif Nat.ble pc 27 then (bif Nat.ble pc 21 then (bif Nat.beq pc 21 then some (.invokestatic 40, 24, 0, 77, 3, 257) else none) else (bif Nat.ble pc 24 then (bif Nat.beq pc 24 then some (.ifCond .ne 6, 27, 30, 0, 0, 0) else none) else (bif Nat.beq pc 27 then some (.bipush (-2), 29, 0, 0, 0, 0) else none))) else (bif Nat.ble pc 30 then (bif Nat.ble pc 29 then (bif Nat.beq pc 29 then some (.ireturn, 30, 0, 0, 0, 0) else none) else (bif Nat.beq pc 30 then some (.aload_n 3, 31, 0, 0, 0, 0) else none)) else (bif Nat.ble pc 31 then (bif Nat.beq pc 31 then some (.getfield 70, 34, 0, 5, 0, 92) else none) else (bif Nat.beq pc 34 then some (.iload_n 1, 35, 0, 0, 0, 0) else none)))) else (bif Nat.ble pc 38 then (bif Nat.ble pc 35 then (bif Nat.beq pc 35 then some (.iaload, 36, 0, 0, 0, 0) else none) else (bif Nat.ble pc 36 then (bif Nat.beq pc 36 then some (.bipush 10, 38, 0, 0, 0, 0) else none) else (bif Nat.beq pc 38 then some (.if_icmp .lt 13, 41, 51, 0, 0, 0) else none))) else (bif Nat.ble pc 42 then (bif Nat.ble pc 41 then (bif Nat.beq pc 41 then some (.aload_n 3, 42, 0, 0, 0, 0) else none) else (bif Nat.beq pc 42 then some (.getfield 74, 45, 0, 5, 1, 96) else none)) else (bif Nat.ble pc 45 then (bif Nat.beq pc 45 then some (.iload_n 1, 46, 0, 0, 0, 0) else none) else (bif Nat.beq pc 46 then some (.iaload, 47, 0, 0, 0, 0) else none)))))) else (bif Nat.ble pc 70 then (bif Nat.ble pc 55 then (bif Nat.ble pc 51 then (bif Nat.ble pc 47 then (bif Nat.beq pc 47 then some (.iload_n 2, 48, 0, 0, 0, 0) else none) else (bif Nat.ble pc 48 then (bif Nat.beq pc 48 then some (.if_icmp .ne 6, 51, 54, 0, 0, 0) else none) else (bif Nat.beq pc 51 then some (.bipush (-4), 53, 0, 0, 0, 0) else none))) else (bif Nat.ble pc 53 then (bif Nat.beq pc 53 then some (.ireturn, 54, 0, 0, 0, 0) else none) else (bif Nat.ble pc 54 then (bif Nat.beq pc 54 then some (.aload_n 0, 55, 0, 0, 0, 0) else none) else (bif Nat.beq pc 55 then some (.getfield 29, 58, 0, 6, 4, 238) else none)))) else (bif Nat.ble pc 62 then (bif Nat.ble pc 58 then (bif Nat.beq pc 58 then some (.aload_n 0, 59, 0, 0, 0, 0) else none) else (bif Nat.ble pc 59 then (bif Nat.beq pc 59 then some (.getfield 10, 62, 0, 6, 0, 234) else none) else (bif Nat.beq pc 62 then some (.invokevirtual 58, 65, 0, 1, 2, 264) else none))) else (bif Nat.ble pc 66 then (bif Nat.ble pc 65 then (bif Nat.beq pc 65 then some (.aload_n 3, 66, 0, 0, 0, 0) else none) else (bif Nat.beq pc 66 then some (.getfield 70, 69, 0, 5, 0, 92) else none)) else (bif Nat.ble pc 69 then (bif Nat.beq pc 69 then some (.iload_n 1, 70, 0, 0, 0, 0) else none) else (bif Nat.beq pc 70 then some (.dup2, 71, 0, 0, 0, 0) else none))))) else (bif Nat.ble pc 79 then (bif Nat.ble pc 73 then (bif Nat.ble pc 71 then (bif Nat.beq pc 71 then some (.iaload, 72, 0, 0, 0, 0) else none) else (bif Nat.ble pc 72 then (bif Nat.beq pc 72 then some (.iconst 2, 73, 0, 0, 0, 0) else none) else (bif Nat.beq pc 73 then some (.isub, 74, 0, 0, 0, 0) else none))) else (bif Nat.ble pc 75 then (bif Nat.ble pc 74 then (bif Nat.beq pc 74 then some (.iastore, 75, 0, 0, 0, 0) else none) else (bif Nat.beq pc 75 then some (.aload_n 3, 76, 0, 0, 0, 0) else none)) else (bif Nat.ble pc 76 then (bif Nat.beq pc 76 then some (.getfield 74, 79, 0, 5, 1, 96) else none) else (bif Nat.beq pc 79 then some (.iload_n 1, 80, 0, 0, 0, 0) else none)))) else (bif Nat.ble pc 82 then (bif Nat.ble pc 80 then (bif Nat.beq pc 80 then some (.iload_n 2, 81, 0, 0, 0, 0) else none) else (bif Nat.ble pc 81 then (bif Nat.beq pc 81 then some (.iastore, 82, 0, 0, 0, 0) else none) else (bif Nat.beq pc 82 then some (.aload_n 3, 83, 0, 0, 0, 0) else none))) else (bif Nat.ble pc 86 then (bif Nat.ble pc 83 then (bif Nat.beq pc 83 then some (.getfield 70, 86, 0, 5, 0, 92) else none) else (bif Nat.beq pc 86 then some (.iload_n 1, 87, 0, 0, 0, 0) else none)) else (bif Nat.ble pc 87 then (bif Nat.beq pc 87 then some (.iaload, 88, 0, 0, 0, 0) else none) else (bif Nat.beq pc 88 then some (.ireturn, 89, 0, 0, 0, 0) else none)))))))
set_option maxRecDepth 100000 in
def fp_k53 (pc : Nat) : Option FpE := (bif Nat.ble pc 46 then (bif Nat.ble pc 19 then (bif Nat.ble pc 9 then (bif Nat.ble pc 4 then (bif Nat.ble pc 0 then (bif Nat.beq pc 0 then some (.aload_n 0, 1, 0, 0, 0, 0) else none) else (bif Nat.ble pc 1 then (bif Nat.beq pc 1 then some (.getfield 10, 4, 0, 6, 0, 234) else none) else (bif Nat.beq pc 4 then some (.getfield 44, 7, 0, 4, 1, 144) else none))) else (bif Nat.ble pc 7 then (bif Nat.beq pc 7 then some (.astore_n 3, 8, 0, 0, 0, 0) else none) else (bif Nat.ble pc 8 then (bif Nat.beq pc 8 then some (.aload_n 3, 9, 0, 0, 0, 0) else none) else (bif Nat.beq pc 9 then some (.iload_n 1, 10, 0, 0, 0, 0) else none)))) else (bif Nat.ble pc 16 then (bif Nat.ble pc 10 then (bif Nat.beq pc 10 then some (.invokevirtual 66, 13, 5, 45, 2, 298) else none) else (bif Nat.ble pc 13 then (bif Nat.beq pc 13 then some (.ifCond .ne 5, 16, 18, 0, 0, 0) else none) else (bif Nat.beq pc 16 then some (.iconst (-1), 17, 0, 0, 0, 0) else none))) else (bif Nat.ble pc 17 then (bif Nat.beq pc 17 then some (.ireturn, 18, 0, 0, 0, 0) else none) else (bif Nat.ble pc 18 then (bif Nat.beq pc 18 then some (.iload_n 2, 19, 0, 0, 0, 0) else none) else (bif Nat.beq pc 19 then some (.iconst 1, 20, 0, 0, 0, 0) else none))))) else (bif Nat.ble pc 32 then (bif Nat.ble pc 26 then (bif Nat.ble pc 20 then (bif Nat.beq pc 20 then some (.sipush 199, 23, 0, 0, 0, 0) else none) else (bif Nat.ble pc 23 then (bif Nat.beq pc 23 then some (.invokestatic 40, 26, 0, 77, 3, 257) else none) else (bif Nat.beq pc 26 then some (.ifCond .ne 6, 29, 32, 0, 0, 0) else none))) else (bif Nat.ble pc 29 then (bif Nat.beq pc 29 then some (.bipush (-2), 31, 0, 0, 0, 0) else none) else (bif Nat.ble pc 31 then (bif Nat.beq pc 31 then some (.ireturn, 32, 0, 0, 0, 0) else none) else (bif Nat.beq pc 32 then some (.aload_n 3, 33, 0, 0, 0, 0) else none)))) else (bif Nat.ble pc 39 then (bif Nat.ble pc 33 then (bif Nat.beq pc 33 then some (.invokevirtual 48, 36, 5, 46, 1, 260) else none) else (bif Nat.ble pc 36 then (bif Nat.beq pc 36 then some (.ifCond .eq 6, 39, 42, 0, 0, 0) else none) else (bif Nat.beq pc 39 then some (.bipush (-3), 41, 0, 0, 0, 0) else none))) else (bif Nat.ble pc 42 then (bif Nat.ble pc 41 then (bif Nat.beq pc 41 then some (.ireturn, 42, 0, 0, 0, 0) else none) else (bif Nat.beq pc 42 then some (.aload_n 3, 43, 0, 0, 0, 0) else none)) else (bif Nat.ble pc 43 then (bif Nat.beq pc 43 then some (.getfield 70, 46, 0, 5, 0, 92) else none) else (bif Nat.beq pc 46 then some (.iload_n 1, 47, 0, 0, 0, 0) else none)))))) else (bif Nat.ble pc 68 then (bif Nat.ble pc 54 then (bif Nat.ble pc 49 then (bif Nat.ble pc 47 then (bif Nat.beq pc 47 then some (.iaload, 48, 0, 0, 0, 0) else none) else (bif Nat.ble pc 48 then (bif Nat.beq pc 48 then some (.iload_n 2, 49, 0, 0, 0, 0) else none) else (bif Nat.beq pc 49 then some (.isub, 50, 0, 0, 0, 0) else none))) else (bif Nat.ble pc 50 then (bif Nat.beq pc 50 then some (.istore 4, 52, 0, 0, 0, 0) else none) else (bif Nat.ble pc 52 then (bif Nat.beq pc 52 then some (.iload 4, 54, 0, 0, 0, 0) else none) else (bif Nat.beq pc 54 then some (.ifCond .gt 6, 57, 60, 0, 0, 0) else none)))) else (bif Nat.ble pc 60 then (bif Nat.ble pc 57 then (bif Nat.beq pc 57 then some (.bipush (-4), 59, 0, 0, 0, 0) else none) else (bif Nat.ble pc 59 then (bif Nat.beq pc 59 then some (.ireturn, 60, 0, 0, 0, 0) else none) else (bif Nat.beq pc 60 then some (.aload_n 0, 61, 0, 0, 0, 0) else none))) else (bif Nat.ble pc 64 then (bif Nat.ble pc 61 then (bif Nat.beq pc 61 then some (.getfield 29, 64, 0, 6, 4, 238) else none) else (bif Nat.beq pc 64 then some (.aload_n 0, 65, 0, 0, 0, 0) else none)) else (bif Nat.ble pc 65 then (bif Nat.beq pc 65 then some (.getfield 10, 68, 0, 6, 0, 234) else none) else (bif Nat.beq pc 68 then some (.invokevirtual 58, 71, 0, 1, 2, 264) else none))))) else (bif Nat.ble pc 78 then (bif Nat.ble pc 75 then (bif Nat.ble pc 71 then (bif Nat.beq pc 71 then some (.aload_n 3, 72, 0, 0, 0, 0) else none) else (bif Nat.ble pc 72 then (bif Nat.beq pc 72 then some (.getfield 70, 75, 0, 5, 0, 92) else none) else (bif Nat.beq pc 75 then some (.iload_n 1, 76, 0, 0, 0, 0) else none))) else (bif Nat.ble pc 76 then (bif Nat.beq pc 76 then some (.iload_n 2, 77, 0, 0, 0, 0) else none) else (bif Nat.ble pc 77 then (bif Nat.beq pc 77 then some (.iastore, 78, 0, 0, 0, 0) else none) else (bif Nat.beq pc 78 then some (.aload_n 3, 79, 0, 0, 0, 0) else none)))) else (bif Nat.ble pc 82 then (bif Nat.ble pc 79 then (bif Nat.beq pc 79 then some (.iload 4, 81, 0, 0, 0, 0) else none) else (bif Nat.ble pc 81 then (bif Nat.beq pc 81 then some (.aload_n 3, 82, 0, 0, 0, 0) else none) else (bif Nat.beq pc 82 then some (.getfield 74, 85, 0, 5, 1, 96) else none))) else (bif Nat.ble pc 86 then (bif Nat.ble pc 85 then (bif Nat.beq pc 85 then some (.iload_n 1, 86, 0, 0, 0, 0) else none) else (bif Nat.beq pc 86 then some (.iaload, 87, 0, 0, 0, 0) else none)) else (bif Nat.ble pc 87 then (bif Nat.beq pc 87 then some (.invokevirtual 62, 90, 5, 47, 3, 290) else none) else (bif Nat.beq pc 90 then some (.ireturn, 91, 0, 0, 0, 0) else none)))))))
set_option maxRecDepth 100000 in
def fp_k54 (pc : Nat) : Option FpE := (bif Nat.ble pc 34 then (bif Nat.ble pc 18 then (bif Nat.ble pc 7 then (bif Nat.ble pc 1 then (bif Nat.ble pc 0 then (bif Nat.beq pc 0 then some (.aload_n 0, 1, 0, 0, 0, 0) else none) else (bif Nat.beq pc 1 then some (.getfield 10, 4, 0, 6, 0, 234) else none)) else (bif Nat.ble pc 4 then (bif Nat.beq pc 4 then some (.getfield 77, 7, 0, 4, 0, 142) else none) else (bif Nat.beq pc 7 then some (.astore 4, 9, 0, 0, 0, 0) else none))) else (bif Nat.ble pc 11 then (bif Nat.ble pc 9 then (bif Nat.beq pc 9 then some (.aload 4, 11, 0, 0, 0, 0) else none) else (bif Nat.beq pc 11 then some (.iload_n 1, 12, 0, 0, 0, 0) else none)) else (bif Nat.ble pc 12 then (bif Nat.beq pc 12 then some (.invokevirtual 81, 15, 2, 12, 2, 310) else none) else (bif Nat.ble pc 15 then (bif Nat.beq pc 15 then some (.ifCond .eq 10, 18, 25, 0, 0, 0) else none) else (bif Nat.beq pc 18 then some (.iload_n 2, 19, 0, 0, 0, 0) else none))))) else (bif Nat.ble pc 26 then (bif Nat.ble pc 22 then (bif Nat.ble pc 19 then (bif Nat.beq pc 19 then some (.invokestatic 84, 22, 0, 78, 1, 314) else none) else (bif Nat.beq pc 22 then some (.ifCond .ne 5, 25, 27, 0, 0, 0) else none)) else (bif Nat.ble pc 25 then (bif Nat.beq pc 25 then some (.iconst (-1), 26, 0, 0, 0, 0) else none) else (bif Nat.beq pc 26 then some (.ireturn, 27, 0, 0, 0, 0) else none))) else (bif Nat.ble pc 28 then (bif Nat.ble pc 27 then (bif Nat.beq pc 27 then some (.iload_n 3, 28, 0, 0, 0, 0) else none) else (bif Nat.beq pc 28 then some (.iconst 1, 29, 0, 0, 0, 0) else none)) else (bif Nat.ble pc 29 then (bif Nat.beq pc 29 then some (.bipush 9, 31, 0, 0, 0, 0) else none) else (bif Nat.ble pc 31 then (bif Nat.beq pc 31 then some (.invokestatic 40, 34, 0, 77, 3, 257) else none) else (bif Nat.beq pc 34 then some (.ifCond .ne 6, 37, 40, 0, 0, 0) else none)))))) else (bif Nat.ble pc 52 then (bif Nat.ble pc 42 then (bif Nat.ble pc 39 then (bif Nat.ble pc 37 then (bif Nat.beq pc 37 then some (.bipush (-2), 39, 0, 0, 0, 0) else none) else (bif Nat.beq pc 39 then some (.ireturn, 40, 0, 0, 0, 0) else none)) else (bif Nat.ble pc 40 then (bif Nat.beq pc 40 then some (.aload 4, 42, 0, 0, 0, 0) else none) else (bif Nat.beq pc 42 then some (.invokevirtual 87, 45, 2, 13, 1, 317) else none))) else (bif Nat.ble pc 48 then (bif Nat.ble pc 45 then (bif Nat.beq pc 45 then some (.ifCond .eq 6, 48, 51, 0, 0, 0) else none) else (bif Nat.beq pc 48 then some (.bipush (-3), 50, 0, 0, 0, 0) else none)) else (bif Nat.ble pc 50 then (bif Nat.beq pc 50 then some (.ireturn, 51, 0, 0, 0, 0) else none) else (bif Nat.ble pc 51 then (bif Nat.beq pc 51 then some (.aload_n 0, 52, 0, 0, 0, 0) else none) else (bif Nat.beq pc 52 then some (.getfield 29, 55, 0, 6, 4, 238) else none))))) else (bif Nat.ble pc 62 then (bif Nat.ble pc 56 then (bif Nat.ble pc 55 then (bif Nat.beq pc 55 then some (.aload_n 0, 56, 0, 0, 0, 0) else none) else (bif Nat.beq pc 56 then some (.getfield 10, 59, 0, 6, 0, 234) else none)) else (bif Nat.ble pc 59 then (bif Nat.beq pc 59 then some (.invokevirtual 58, 62, 0, 1, 2, 264) else none) else (bif Nat.beq pc 62 then some (.aload 4, 64, 0, 0, 0, 0) else none))) else (bif Nat.ble pc 65 then (bif Nat.ble pc 64 then (bif Nat.beq pc 64 then some (.iload_n 1, 65, 0, 0, 0, 0) else none) else (bif Nat.beq pc 65 then some (.iload_n 2, 66, 0, 0, 0, 0) else none)) else (bif Nat.ble pc 66 then (bif Nat.beq pc 66 then some (.iload_n 3, 67, 0, 0, 0, 0) else none) else (bif Nat.ble pc 67 then (bif Nat.beq pc 67 then some (.invokevirtual 88, 70, 2, 22, 4, 321) else none) else (bif Nat.beq pc 70 then some (.ireturn, 71, 0, 0, 0, 0) else none)))))))
set_option maxRecDepth 100000 in
def fp_k55 (pc : Nat) : Option FpE := (bif Nat.ble pc 37 then (bif Nat.ble pc 17 then (bif Nat.ble pc 8 then (bif Nat.ble pc 1 then (bif Nat.ble pc 0 then (bif Nat.beq pc 0 then some (.aload_n 0, 1, 0, 0, 0, 0) else none) else (bif Nat.beq pc 1 then some (.getfield 10, 4, 0, 6, 0, 234) else none)) else (bif Nat.ble pc 4 then (bif Nat.beq pc 4 then some (.getfield 77, 7, 0, 4, 0, 142) else none) else (bif Nat.ble pc 7 then (bif Nat.beq pc 7 then some (.iload_n 1, 8, 0, 0, 0, 0) else none) else (bif Nat.beq pc 8 then some (.invokevirtual 81, 11, 2, 12, 2, 310) else none)))) else (bif Nat.ble pc 14 then (bif Nat.ble pc 11 then (bif Nat.beq pc 11 then some (.ifCond .ne 5, 14, 16, 0, 0, 0) else none) else (bif Nat.beq pc 14 then some (.iconst (-1), 15, 0, 0, 0, 0) else none)) else (bif Nat.ble pc 15 then (bif Nat.beq pc 15 then some (.ireturn, 16, 0, 0, 0, 0) else none) else (bif Nat.ble pc 16 then (bif Nat.beq pc 16 then some (.iload_n 2, 17, 0, 0, 0, 0) else none) else (bif Nat.beq pc 17 then some (.iconst 0, 18, 0, 0, 0, 0) else none))))) else (bif Nat.ble pc 26 then (bif Nat.ble pc 19 then (bif Nat.ble pc 18 then (bif Nat.beq pc 18 then some (.iconst 2, 19, 0, 0, 0, 0) else none) else (bif Nat.beq pc 19 then some (.invokestatic 40, 22, 0, 77, 3, 257) else none)) else (bif Nat.ble pc 22 then (bif Nat.beq pc 22 then some (.ifCond .eq 13, 25, 35, 0, 0, 0) else none) else (bif Nat.ble pc 25 then (bif Nat.beq pc 25 then some (.iload_n 3, 26, 0, 0, 0, 0) else none) else (bif Nat.beq pc 26 then some (.iconst 1, 27, 0, 0, 0, 0) else none)))) else (bif Nat.ble pc 29 then (bif Nat.ble pc 27 then (bif Nat.beq pc 27 then some (.bipush 99, 29, 0, 0, 0, 0) else none) else (bif Nat.beq pc 29 then some (.invokestatic 40, 32, 0, 77, 3, 257) else none)) else (bif Nat.ble pc 32 then (bif Nat.beq pc 32 then some (.ifCond .ne 6, 35, 38, 0, 0, 0) else none) else (bif Nat.ble pc 35 then (bif Nat.beq pc 35 then some (.bipush (-2), 37, 0, 0, 0, 0) else none) else (bif Nat.beq pc 37 then some (.ireturn, 38, 0, 0, 0, 0) else none)))))) else (bif Nat.ble pc 58 then (bif Nat.ble pc 48 then (bif Nat.ble pc 39 then (bif Nat.ble pc 38 then (bif Nat.beq pc 38 then some (.aload_n 0, 39, 0, 0, 0, 0) else none) else (bif Nat.beq pc 39 then some (.getfield 10, 42, 0, 6, 0, 234) else none)) else (bif Nat.ble pc 42 then (bif Nat.beq pc 42 then some (.getfield 92, 45, 0, 4, 2, 146) else none) else (bif Nat.ble pc 45 then (bif Nat.beq pc 45 then some (.invokevirtual 96, 48, 1, 5, 1, 333) else none) else (bif Nat.beq pc 48 then some (.ifCond .eq 6, 51, 54, 0, 0, 0) else none)))) else (bif Nat.ble pc 53 then (bif Nat.ble pc 51 then (bif Nat.beq pc 51 then some (.bipush (-3), 53, 0, 0, 0, 0) else none) else (bif Nat.beq pc 53 then some (.ireturn, 54, 0, 0, 0, 0) else none)) else (bif Nat.ble pc 54 then (bif Nat.beq pc 54 then some (.aload_n 0, 55, 0, 0, 0, 0) else none) else (bif Nat.ble pc 55 then (bif Nat.beq pc 55 then some (.getfield 29, 58, 0, 6, 4, 238) else none) else (bif Nat.beq pc 58 then some (.aload_n 0, 59, 0, 0, 0, 0) else none))))) else (bif Nat.ble pc 69 then (bif Nat.ble pc 62 then (bif Nat.ble pc 59 then (bif Nat.beq pc 59 then some (.getfield 10, 62, 0, 6, 0, 234) else none) else (bif Nat.beq pc 62 then some (.invokevirtual 58, 65, 0, 1, 2, 264) else none)) else (bif Nat.ble pc 65 then (bif Nat.beq pc 65 then some (.aload_n 0, 66, 0, 0, 0, 0) else none) else (bif Nat.ble pc 66 then (bif Nat.beq pc 66 then some (.getfield 10, 69, 0, 6, 0, 234) else none) else (bif Nat.beq pc 69 then some (.getfield 92, 72, 0, 4, 2, 146) else none)))) else (bif Nat.ble pc 73 then (bif Nat.ble pc 72 then (bif Nat.beq pc 72 then some (.iload_n 1, 73, 0, 0, 0, 0) else none) else (bif Nat.beq pc 73 then some (.iload_n 2, 74, 0, 0, 0, 0) else none)) else (bif Nat.ble pc 74 then (bif Nat.beq pc 74 then some (.iload_n 3, 75, 0, 0, 0, 0) else none) else (bif Nat.ble pc 75 then (bif Nat.beq pc 75 then some (.invokevirtual 99, 78, 1, 6, 4, 337) else none) else (bif Nat.beq pc 78 then some (.ireturn, 79, 0, 0, 0, 0) else none)))))))
set_option maxRecDepth 100000 in
def fp_k56 (pc : Nat) : Option FpE := (bif Nat.ble pc 67 then (bif Nat.ble pc 33 then (bif Nat.ble pc 16 then (bif Nat.ble pc 7 then (bif Nat.ble pc 1 then (bif Nat.ble pc 0 then (bif Nat.beq pc 0 then some (.aload_n 0, 1, 0, 0, 0, 0) else none) else (bif Nat.beq pc 1 then some (.getfield 36, 4, 0, 6, 5, 239) else none)) else (bif Nat.ble pc 4 then (bif Nat.beq pc 4 then some (.invokevirtual 101, 7, 3, 27, 1, 345) else none) else (bif Nat.beq pc 7 then some (.ifCond .ne 14, 10, 21, 0, 0, 0) else none))) else (bif Nat.ble pc 12 then (bif Nat.ble pc 10 then (bif Nat.beq pc 10 then some (.bipush (-100), 12, 0, 0, 0, 0) else none) else (bif Nat.beq pc 12 then some (.aload_n 0, 13, 0, 0, 0, 0) else none)) else (bif Nat.ble pc 13 then (bif Nat.beq pc 13 then some (.getfield 36, 16, 0, 6, 5, 239) else none) else (bif Nat.beq pc 16 then some (.getfield 104, 19, 0, 3, 6, 217) else none)))) else (bif Nat.ble pc 22 then (bif Nat.ble pc 20 then (bif Nat.ble pc 19 then (bif Nat.beq pc 19 then some (.isub, 20, 0, 0, 0, 0) else none) else (bif Nat.beq pc 20 then some (.ireturn, 21, 0, 0, 0, 0) else none)) else (bif Nat.ble pc 21 then (bif Nat.beq pc 21 then some (.aload_n 0, 22, 0, 0, 0, 0) else none) else (bif Nat.beq pc 22 then some (.getfield 16, 25, 0, 6, 1, 235) else none))) else (bif Nat.ble pc 26 then (bif Nat.ble pc 25 then (bif Nat.beq pc 25 then some (.aload_n 0, 26, 0, 0, 0, 0) else none) else (bif Nat.beq pc 26 then some (.getfield 10, 29, 0, 6, 0, 234) else none)) else (bif Nat.ble pc 29 then (bif Nat.beq pc 29 then some (.invokevirtual 107, 32, 4, 34, 2, 373) else none) else (bif Nat.ble pc 32 then (bif Nat.beq pc 32 then some (.iconst 0, 33, 0, 0, 0, 0) else none) else (bif Nat.beq pc 33 then some (.istore_n 1, 34, 0, 0, 0, 0) else none)))))) else (bif Nat.ble pc 49 then (bif Nat.ble pc 39 then (bif Nat.ble pc 35 then (bif Nat.ble pc 34 then (bif Nat.beq pc 34 then some (.iload_n 1, 35, 0, 0, 0, 0) else none) else (bif Nat.beq pc 35 then some (.aload_n 0, 36, 0, 0, 0, 0) else none)) else (bif Nat.ble pc 36 then (bif Nat.beq pc 36 then some (.getfield 36, 39, 0, 6, 5, 239) else none) else (bif Nat.beq pc 39 then some (.getfield 110, 42, 0, 3, 5, 215) else none))) else (bif Nat.ble pc 45 then (bif Nat.ble pc 42 then (bif Nat.beq pc 42 then some (.if_icmp .ge 83, 45, 125, 0, 0, 0) else none) else (bif Nat.beq pc 45 then some (.aload_n 0, 46, 0, 0, 0, 0) else none)) else (bif Nat.ble pc 46 then (bif Nat.beq pc 46 then some (.getfield 16, 49, 0, 6, 1, 235) else none) else (bif Nat.beq pc 49 then some (.getfield 77, 52, 0, 4, 0, 142) else none)))) else (bif Nat.ble pc 59 then (bif Nat.ble pc 53 then (bif Nat.ble pc 52 then (bif Nat.beq pc 52 then some (.aload_n 0, 53, 0, 0, 0, 0) else none) else (bif Nat.beq pc 53 then some (.getfield 36, 56, 0, 6, 5, 239) else none)) else (bif Nat.ble pc 56 then (bif Nat.beq pc 56 then some (.getfield 113, 59, 0, 3, 2, 209) else none) else (bif Nat.beq pc 59 then some (.iload_n 1, 60, 0, 0, 0, 0) else none))) else (bif Nat.ble pc 62 then (bif Nat.ble pc 60 then (bif Nat.beq pc 60 then some (.bipush 8, 62, 0, 0, 0, 0) else none) else (bif Nat.beq pc 62 then some (.imul, 63, 0, 0, 0, 0) else none)) else (bif Nat.ble pc 63 then (bif Nat.beq pc 63 then some (.invokevirtual 116, 66, 2, 20, 3, 374) else none) else (bif Nat.ble pc 66 then (bif Nat.beq pc 66 then some (.istore_n 2, 67, 0, 0, 0, 0) else none) else (bif Nat.beq pc 67 then some (.iload_n 2, 68, 0, 0, 0, 0) else none))))))) else (bif Nat.ble pc 104 then (bif Nat.ble pc 86 then (bif Nat.ble pc 74 then (bif Nat.ble pc 70 then (bif Nat.ble pc 68 then (bif Nat.beq pc 68 then some (.bipush (-3), 70, 0, 0, 0, 0) else none) else (bif Nat.beq pc 70 then some (.if_icmp .eq 16, 73, 86, 0, 0, 0) else none)) else (bif Nat.ble pc 73 then (bif Nat.beq pc 73 then some (.aload_n 0, 74, 0, 0, 0, 0) else none) else (bif Nat.beq pc 74 then some (.getfield 16, 77, 0, 6, 1, 235) else none))) else (bif Nat.ble pc 80 then (bif Nat.ble pc 77 then (bif Nat.beq pc 77 then some (.getfield 92, 80, 0, 4, 2, 146) else none) else (bif Nat.beq pc 80 then some (.invokevirtual 96, 83, 1, 5, 1, 333) else none)) else (bif Nat.ble pc 83 then (bif Nat.beq pc 83 then some (.ifCond .eq 6, 86, 89, 0, 0, 0) else none) else (bif Nat.beq pc 86 then some (.bipush (-3), 88, 0, 0, 0, 0) else none)))) else (bif Nat.ble pc 93 then (bif Nat.ble pc 89 then (bif Nat.ble pc 88 then (bif Nat.beq pc 88 then some (.ireturn, 89, 0, 0, 0, 0) else none) else (bif Nat.beq pc 89 then some (.aload_n 0, 90, 0, 0, 0, 0) else none)) else (bif Nat.ble pc 90 then (bif Nat.beq pc 90 then some (.getfield 16, 93, 0, 6, 1, 235) else none) else (bif Nat.beq pc 93 then some (.getfield 92, 96, 0, 4, 2, 146) else none))) else (bif Nat.ble pc 97 then (bif Nat.ble pc 96 then (bif Nat.beq pc 96 then some (.iload_n 2, 97, 0, 0, 0, 0) else none) else (bif Nat.beq pc 97 then some (.aload_n 0, 98, 0, 0, 0, 0) else none)) else (bif Nat.ble pc 98 then (bif Nat.beq pc 98 then some (.getfield 36, 101, 0, 6, 5, 239) else none) else (bif Nat.ble pc 101 then (bif Nat.beq pc 101 then some (.getfield 120, 104, 0, 3, 3, 211) else none) else (bif Nat.beq pc 104 then some (.iload_n 1, 105, 0, 0, 0, 0) else none)))))) else (bif Nat.ble pc 118 then (bif Nat.ble pc 110 then (bif Nat.ble pc 106 then (bif Nat.ble pc 105 then (bif Nat.beq pc 105 then some (.iaload, 106, 0, 0, 0, 0) else none) else (bif Nat.beq pc 106 then some (.aload_n 0, 107, 0, 0, 0, 0) else none)) else (bif Nat.ble pc 107 then (bif Nat.beq pc 107 then some (.getfield 36, 110, 0, 6, 5, 239) else none) else (bif Nat.beq pc 110 then some (.getfield 123, 113, 0, 3, 4, 213) else none))) else (bif Nat.ble pc 114 then (bif Nat.ble pc 113 then (bif Nat.beq pc 113 then some (.iload_n 1, 114, 0, 0, 0, 0) else none) else (bif Nat.beq pc 114 then some (.iaload, 115, 0, 0, 0, 0) else none)) else (bif Nat.ble pc 115 then (bif Nat.beq pc 115 then some (.invokevirtual 99, 118, 1, 6, 4, 337) else none) else (bif Nat.beq pc 118 then some (.pop, 119, 0, 0, 0, 0) else none)))) else (bif Nat.ble pc 126 then (bif Nat.ble pc 122 then (bif Nat.ble pc 119 then (bif Nat.beq pc 119 then some (.iinc 1 1, 122, 0, 0, 0, 0) else none) else (bif Nat.beq pc 122 then some (.goto (-88), 125, 34, 0, 0, 0) else none)) else (bif Nat.ble pc 125 then (bif Nat.beq pc 125 then some (.aload_n 0, 126, 0, 0, 0, 0) else none) else (bif Nat.beq pc 126 then some (.invokevirtual 126, 129, 6, 76, 1, 387) else none))) else (bif Nat.ble pc 130 then (bif Nat.ble pc 129 then (bif Nat.beq pc 129 then some (.aload_n 0, 130, 0, 0, 0, 0) else none) else (bif Nat.beq pc 130 then some (.getfield 10, 133, 0, 6, 0, 234) else none)) else (bif Nat.ble pc 133 then (bif Nat.beq pc 133 then some (.getfield 92, 136, 0, 4, 2, 146) else none) else (bif Nat.ble pc 136 then (bif Nat.beq pc 136 then some (.getfield 129, 139, 0, 1, 3, 121) else none) else (bif Nat.beq pc 139 then some (.ireturn, 140, 0, 0, 0, 0) else none))))))))
set_option maxRecDepth 100000 in
def fp_k57 (pc : Nat) : Option FpE := (bif Nat.ble pc 28 then (bif Nat.ble pc 15 then (bif Nat.ble pc 7 then (bif Nat.ble pc 1 then (bif Nat.ble pc 0 then (bif Nat.beq pc 0 then some (.aload_n 0, 1, 0, 0, 0, 0) else none) else (bif Nat.beq pc 1 then some (.getfield 10, 4, 0, 6, 0, 234) else none)) else (bif Nat.ble pc 4 then (bif Nat.beq pc 4 then some (.getfield 92, 7, 0, 4, 2, 146) else none) else (bif Nat.beq pc 7 then some (.iload_n 1, 8, 0, 0, 0, 0) else none))) else (bif Nat.ble pc 11 then (bif Nat.ble pc 8 then (bif Nat.beq pc 8 then some (.invokevirtual 132, 11, 1, 4, 2, 395) else none) else (bif Nat.beq pc 11 then some (.ifCond .ne 5, 14, 16, 0, 0, 0) else none)) else (bif Nat.ble pc 14 then (bif Nat.beq pc 14 then some (.iconst (-1), 15, 0, 0, 0, 0) else none) else (bif Nat.beq pc 15 then some (.ireturn, 16, 0, 0, 0, 0) else none)))) else (bif Nat.ble pc 21 then (bif Nat.ble pc 17 then (bif Nat.ble pc 16 then (bif Nat.beq pc 16 then some (.aload_n 0, 17, 0, 0, 0, 0) else none) else (bif Nat.beq pc 17 then some (.getfield 10, 20, 0, 6, 0, 234) else none)) else (bif Nat.ble pc 20 then (bif Nat.beq pc 20 then some (.iload_n 1, 21, 0, 0, 0, 0) else none) else (bif Nat.beq pc 21 then some (.invokevirtual 133, 24, 4, 41, 2, 399) else none))) else (bif Nat.ble pc 25 then (bif Nat.ble pc 24 then (bif Nat.beq pc 24 then some (.istore_n 2, 25, 0, 0, 0, 0) else none) else (bif Nat.beq pc 25 then some (.iload_n 2, 26, 0, 0, 0, 0) else none)) else (bif Nat.ble pc 26 then (bif Nat.beq pc 26 then some (.bipush (-5), 28, 0, 0, 0, 0) else none) else (bif Nat.beq pc 28 then some (.if_icmp .ne 6, 31, 34, 0, 0, 0) else none))))) else (bif Nat.ble pc 45 then (bif Nat.ble pc 35 then (bif Nat.ble pc 33 then (bif Nat.ble pc 31 then (bif Nat.beq pc 31 then some (.bipush (-4), 33, 0, 0, 0, 0) else none) else (bif Nat.beq pc 33 then some (.ireturn, 34, 0, 0, 0, 0) else none)) else (bif Nat.ble pc 34 then (bif Nat.beq pc 34 then some (.aload_n 0, 35, 0, 0, 0, 0) else none) else (bif Nat.beq pc 35 then some (.getfield 29, 38, 0, 6, 4, 238) else none))) else (bif Nat.ble pc 39 then (bif Nat.ble pc 38 then (bif Nat.beq pc 38 then some (.aload_n 0, 39, 0, 0, 0, 0) else none) else (bif Nat.beq pc 39 then some (.getfield 10, 42, 0, 6, 0, 234) else none)) else (bif Nat.ble pc 42 then (bif Nat.beq pc 42 then some (.invokevirtual 58, 45, 0, 1, 2, 264) else none) else (bif Nat.beq pc 45 then some (.aload_n 0, 46, 0, 0, 0, 0) else none)))) else (bif Nat.ble pc 51 then (bif Nat.ble pc 49 then (bif Nat.ble pc 46 then (bif Nat.beq pc 46 then some (.getfield 10, 49, 0, 6, 0, 234) else none) else (bif Nat.beq pc 49 then some (.iload_n 1, 50, 0, 0, 0, 0) else none)) else (bif Nat.ble pc 50 then (bif Nat.beq pc 50 then some (.iload_n 2, 51, 0, 0, 0, 0) else none) else (bif Nat.beq pc 51 then some (.invokevirtual 137, 54, 4, 42, 3, 411) else none))) else (bif Nat.ble pc 55 then (bif Nat.ble pc 54 then (bif Nat.beq pc 54 then some (.aload_n 0, 55, 0, 0, 0, 0) else none) else (bif Nat.beq pc 55 then some (.getfield 10, 58, 0, 6, 0, 234) else none)) else (bif Nat.ble pc 58 then (bif Nat.beq pc 58 then some (.getfield 54, 61, 0, 4, 4, 150) else none) else (bif Nat.beq pc 61 then some (.ireturn, 62, 0, 0, 0, 0) else none))))))
set_option maxRecDepth 100000 in
def fp_k58 (pc : Nat) : Option FpE := (bif Nat.ble pc 15 then (bif Nat.ble pc 5 then (bif Nat.ble pc 1 then (bif Nat.ble pc 0 then (bif Nat.beq pc 0 then some (.aload_n 0, 1, 0, 0, 0, 0) else none) else (bif Nat.beq pc 1 then some (.getfield 16, 4, 0, 6, 1, 235) else none)) else (bif Nat.ble pc 4 then (bif Nat.beq pc 4 then some (.aload_n 0, 5, 0, 0, 0, 0) else none) else (bif Nat.beq pc 5 then some (.getfield 10, 8, 0, 6, 0, 234) else none))) else (bif Nat.ble pc 11 then (bif Nat.ble pc 8 then (bif Nat.beq pc 8 then some (.invokevirtual 107, 11, 4, 34, 2, 373) else none) else (bif Nat.beq pc 11 then some (.aload_n 0, 12, 0, 0, 0, 0) else none)) else (bif Nat.ble pc 12 then (bif Nat.beq pc 12 then some (.getfield 16, 15, 0, 6, 1, 235) else none) else (bif Nat.beq pc 15 then some (.invokevirtual 141, 18, 4, 43, 1, 427) else none)))) else (bif Nat.ble pc 23 then (bif Nat.ble pc 19 then (bif Nat.ble pc 18 then (bif Nat.beq pc 18 then some (.istore_n 1, 19, 0, 0, 0, 0) else none) else (bif Nat.beq pc 19 then some (.iload_n 1, 20, 0, 0, 0, 0) else none)) else (bif Nat.ble pc 20 then (bif Nat.beq pc 20 then some (.ifCond .ne 6, 23, 26, 0, 0, 0) else none) else (bif Nat.beq pc 23 then some (.bipush (-5), 25, 0, 0, 0, 0) else none))) else (bif Nat.ble pc 26 then (bif Nat.ble pc 25 then (bif Nat.beq pc 25 then some (.ireturn, 26, 0, 0, 0, 0) else none) else (bif Nat.beq pc 26 then some (.aload_n 0, 27, 0, 0, 0, 0) else none)) else (bif Nat.ble pc 27 then (bif Nat.beq pc 27 then some (.invokevirtual 126, 30, 6, 76, 1, 387) else none) else (bif Nat.ble pc 30 then (bif Nat.beq pc 30 then some (.iload_n 1, 31, 0, 0, 0, 0) else none) else (bif Nat.beq pc 31 then some (.ireturn, 32, 0, 0, 0, 0) else none))))))
set_option maxRecDepth 100000 in
def fp_k59 (pc : Nat) : Option FpE := (bif Nat.ble pc 45 then (bif Nat.ble pc 22 then (bif Nat.ble pc 8 then (bif Nat.ble pc 1 then (bif Nat.ble pc 0 then (bif Nat.beq pc 0 then some (.aload_n 0, 1, 0, 0, 0, 0) else none) else (bif Nat.beq pc 1 then some (.getfield 10, 4, 0, 6, 0, 234) else none)) else (bif Nat.ble pc 4 then (bif Nat.beq pc 4 then some (.getfield 77, 7, 0, 4, 0, 142) else none) else (bif Nat.ble pc 7 then (bif Nat.beq pc 7 then some (.iload_n 1, 8, 0, 0, 0, 0) else none) else (bif Nat.beq pc 8 then some (.invokevirtual 81, 11, 2, 12, 2, 310) else none)))) else (bif Nat.ble pc 15 then (bif Nat.ble pc 11 then (bif Nat.beq pc 11 then some (.ifCond .eq 17, 14, 28, 0, 0, 0) else none) else (bif Nat.ble pc 14 then (bif Nat.beq pc 14 then some (.aload_n 0, 15, 0, 0, 0, 0) else none) else (bif Nat.beq pc 15 then some (.getfield 10, 18, 0, 6, 0, 234) else none))) else (bif Nat.ble pc 18 then (bif Nat.beq pc 18 then some (.getfield 44, 21, 0, 4, 1, 144) else none) else (bif Nat.ble pc 21 then (bif Nat.beq pc 21 then some (.iload_n 2, 22, 0, 0, 0, 0) else none) else (bif Nat.beq pc 22 then some (.invokevirtual 66, 25, 5, 45, 2, 298) else none))))) else (bif Nat.ble pc 34 then (bif Nat.ble pc 29 then (bif Nat.ble pc 25 then (bif Nat.beq pc 25 then some (.ifCond .ne 5, 28, 30, 0, 0, 0) else none) else (bif Nat.ble pc 28 then (bif Nat.beq pc 28 then some (.iconst (-1), 29, 0, 0, 0, 0) else none) else (bif Nat.beq pc 29 then some (.ireturn, 30, 0, 0, 0, 0) else none))) else (bif Nat.ble pc 30 then (bif Nat.beq pc 30 then some (.iload_n 3, 31, 0, 0, 0, 0) else none) else (bif Nat.ble pc 31 then (bif Nat.beq pc 31 then some (.invokestatic 145, 34, 0, 79, 1, 437) else none) else (bif Nat.beq pc 34 then some (.ifCond .ne 6, 37, 40, 0, 0, 0) else none)))) else (bif Nat.ble pc 40 then (bif Nat.ble pc 37 then (bif Nat.beq pc 37 then some (.bipush (-2), 39, 0, 0, 0, 0) else none) else (bif Nat.ble pc 39 then (bif Nat.beq pc 39 then some (.ireturn, 40, 0, 0, 0, 0) else none) else (bif Nat.beq pc 40 then some (.aload_n 0, 41, 0, 0, 0, 0) else none))) else (bif Nat.ble pc 41 then (bif Nat.beq pc 41 then some (.getfield 10, 44, 0, 6, 0, 234) else none) else (bif Nat.ble pc 44 then (bif Nat.beq pc 44 then some (.iload_n 1, 45, 0, 0, 0, 0) else none) else (bif Nat.beq pc 45 then some (.iload_n 2, 46, 0, 0, 0, 0) else none)))))) else (bif Nat.ble pc 64 then (bif Nat.ble pc 54 then (bif Nat.ble pc 47 then (bif Nat.ble pc 46 then (bif Nat.beq pc 46 then some (.iload_n 3, 47, 0, 0, 0, 0) else none) else (bif Nat.beq pc 47 then some (.invokevirtual 148, 50, 4, 38, 4, 440) else none)) else (bif Nat.ble pc 50 then (bif Nat.beq pc 50 then some (.istore 4, 52, 0, 0, 0, 0) else none) else (bif Nat.ble pc 52 then (bif Nat.beq pc 52 then some (.iload 4, 54, 0, 0, 0, 0) else none) else (bif Nat.beq pc 54 then some (.ifCond .eq 9, 57, 63, 0, 0, 0) else none)))) else (bif Nat.ble pc 61 then (bif Nat.ble pc 57 then (bif Nat.beq pc 57 then some (.bipush (-10), 59, 0, 0, 0, 0) else none) else (bif Nat.ble pc 59 then (bif Nat.beq pc 59 then some (.iload 4, 61, 0, 0, 0, 0) else none) else (bif Nat.beq pc 61 then some (.isub, 62, 0, 0, 0, 0) else none))) else (bif Nat.ble pc 62 then (bif Nat.beq pc 62 then some (.ireturn, 63, 0, 0, 0, 0) else none) else (bif Nat.ble pc 63 then (bif Nat.beq pc 63 then some (.aload_n 0, 64, 0, 0, 0, 0) else none) else (bif Nat.beq pc 64 then some (.getfield 29, 67, 0, 6, 4, 238) else none))))) else (bif Nat.ble pc 78 then (bif Nat.ble pc 71 then (bif Nat.ble pc 67 then (bif Nat.beq pc 67 then some (.aload_n 0, 68, 0, 0, 0, 0) else none) else (bif Nat.ble pc 68 then (bif Nat.beq pc 68 then some (.getfield 10, 71, 0, 6, 0, 234) else none) else (bif Nat.beq pc 71 then some (.invokevirtual 58, 74, 0, 1, 2, 264) else none))) else (bif Nat.ble pc 74 then (bif Nat.beq pc 74 then some (.aload_n 0, 75, 0, 0, 0, 0) else none) else (bif Nat.ble pc 75 then (bif Nat.beq pc 75 then some (.getfield 10, 78, 0, 6, 0, 234) else none) else (bif Nat.beq pc 78 then some (.iload_n 1, 79, 0, 0, 0, 0) else none)))) else (bif Nat.ble pc 81 then (bif Nat.ble pc 79 then (bif Nat.beq pc 79 then some (.iload_n 2, 80, 0, 0, 0, 0) else none) else (bif Nat.ble pc 80 then (bif Nat.beq pc 80 then some (.iload_n 3, 81, 0, 0, 0, 0) else none) else (bif Nat.beq pc 81 then some (.invokevirtual 151, 84, 4, 39, 4, 462) else none))) else (bif Nat.ble pc 84 then (bif Nat.beq pc 84 then some (.iload_n 3, 85, 0, 0, 0, 0) else none) else (bif Nat.ble pc 85 then (bif Nat.beq pc 85 then some (.invokestatic 155, 88, 0, 80, 1, 477) else none) else (bif Nat.beq pc 88 then some (.ireturn, 89, 0, 0, 0, 0) else none)))))))
set_option maxRecDepth 100000 in
def fp_k60 (pc : Nat) : Option FpE := (bif Nat.ble pc 62 then (bif Nat.ble pc 28 then (bif Nat.ble pc 13 then (bif Nat.ble pc 7 then (bif Nat.ble pc 1 then (bif Nat.ble pc 0 then (bif Nat.beq pc 0 then some (.aload_n 0, 1, 0, 0, 0, 0) else none) else (bif Nat.beq pc 1 then some (.getfield 10, 4, 0, 6, 0, 234) else none)) else (bif Nat.ble pc 4 then (bif Nat.beq pc 4 then some (.getfield 77, 7, 0, 4, 0, 142) else none) else (bif Nat.beq pc 7 then some (.astore_n 3, 8, 0, 0, 0, 0) else none))) else (bif Nat.ble pc 9 then (bif Nat.ble pc 8 then (bif Nat.beq pc 8 then some (.aload_n 3, 9, 0, 0, 0, 0) else none) else (bif Nat.beq pc 9 then some (.iload_n 1, 10, 0, 0, 0, 0) else none)) else (bif Nat.ble pc 10 then (bif Nat.beq pc 10 then some (.invokevirtual 81, 13, 2, 12, 2, 310) else none) else (bif Nat.beq pc 13 then some (.ifCond .ne 5, 16, 18, 0, 0, 0) else none)))) else (bif Nat.ble pc 19 then (bif Nat.ble pc 17 then (bif Nat.ble pc 16 then (bif Nat.beq pc 16 then some (.iconst (-1), 17, 0, 0, 0, 0) else none) else (bif Nat.beq pc 17 then some (.ireturn, 18, 0, 0, 0, 0) else none)) else (bif Nat.ble pc 18 then (bif Nat.beq pc 18 then some (.iload_n 2, 19, 0, 0, 0, 0) else none) else (bif Nat.beq pc 19 then some (.ifCond .eq 12, 22, 31, 0, 0, 0) else none))) else (bif Nat.ble pc 23 then (bif Nat.ble pc 22 then (bif Nat.beq pc 22 then some (.aload_n 3, 23, 0, 0, 0, 0) else none) else (bif Nat.beq pc 23 then some (.getfield 158, 26, 0, 2, 1, 63) else none)) else (bif Nat.ble pc 26 then (bif Nat.beq pc 26 then some (.iload_n 1, 27, 0, 0, 0, 0) else none) else (bif Nat.ble pc 27 then (bif Nat.beq pc 27 then some (.iaload, 28, 0, 0, 0, 0) else none) else (bif Nat.beq pc 28 then some (.goto 9, 31, 37, 0, 0, 0) else none)))))) else (bif Nat.ble pc 44 then (bif Nat.ble pc 36 then (bif Nat.ble pc 32 then (bif Nat.ble pc 31 then (bif Nat.beq pc 31 then some (.aload_n 3, 32, 0, 0, 0, 0) else none) else (bif Nat.beq pc 32 then some (.getfield 161, 35, 0, 2, 2, 66) else none)) else (bif Nat.ble pc 35 then (bif Nat.beq pc 35 then some (.iload_n 1, 36, 0, 0, 0, 0) else none) else (bif Nat.beq pc 36 then some (.iaload, 37, 0, 0, 0, 0) else none))) else (bif Nat.ble pc 39 then (bif Nat.ble pc 37 then (bif Nat.beq pc 37 then some (.istore 4, 39, 0, 0, 0, 0) else none) else (bif Nat.beq pc 39 then some (.iload 4, 41, 0, 0, 0, 0) else none)) else (bif Nat.ble pc 41 then (bif Nat.beq pc 41 then some (.ifCond .ne 6, 44, 47, 0, 0, 0) else none) else (bif Nat.beq pc 44 then some (.bipush (-4), 46, 0, 0, 0, 0) else none)))) else (bif Nat.ble pc 51 then (bif Nat.ble pc 47 then (bif Nat.ble pc 46 then (bif Nat.beq pc 46 then some (.ireturn, 47, 0, 0, 0, 0) else none) else (bif Nat.beq pc 47 then some (.aload_n 0, 48, 0, 0, 0, 0) else none)) else (bif Nat.ble pc 48 then (bif Nat.beq pc 48 then some (.getfield 29, 51, 0, 6, 4, 238) else none) else (bif Nat.beq pc 51 then some (.aload_n 0, 52, 0, 0, 0, 0) else none))) else (bif Nat.ble pc 55 then (bif Nat.ble pc 52 then (bif Nat.beq pc 52 then some (.getfield 10, 55, 0, 6, 0, 234) else none) else (bif Nat.beq pc 55 then some (.invokevirtual 58, 58, 0, 1, 2, 264) else none)) else (bif Nat.ble pc 58 then (bif Nat.beq pc 58 then some (.iload_n 2, 59, 0, 0, 0, 0) else none) else (bif Nat.ble pc 59 then (bif Nat.beq pc 59 then some (.ifCond .eq 7, 62, 66, 0, 0, 0) else none) else (bif Nat.beq pc 62 then some (.iconst 1, 63, 0, 0, 0, 0) else none))))))) else (bif Nat.ble pc 87 then (bif Nat.ble pc 75 then (bif Nat.ble pc 69 then (bif Nat.ble pc 66 then (bif Nat.ble pc 63 then (bif Nat.beq pc 63 then some (.goto 4, 66, 67, 0, 0, 0) else none) else (bif Nat.beq pc 66 then some (.iconst (-1), 67, 0, 0, 0, 0) else none)) else (bif Nat.ble pc 67 then (bif Nat.beq pc 67 then some (.istore 5, 69, 0, 0, 0, 0) else none) else (bif Nat.beq pc 69 then some (.aload_n 3, 70, 0, 0, 0, 0) else none))) else (bif Nat.ble pc 73 then (bif Nat.ble pc 70 then (bif Nat.beq pc 70 then some (.getfield 158, 73, 0, 2, 1, 63) else none) else (bif Nat.beq pc 73 then some (.iload_n 1, 74, 0, 0, 0, 0) else none)) else (bif Nat.ble pc 74 then (bif Nat.beq pc 74 then some (.dup2, 75, 0, 0, 0, 0) else none) else (bif Nat.beq pc 75 then some (.iaload, 76, 0, 0, 0, 0) else none)))) else (bif Nat.ble pc 80 then (bif Nat.ble pc 78 then (bif Nat.ble pc 76 then (bif Nat.beq pc 76 then some (.iload 5, 78, 0, 0, 0, 0) else none) else (bif Nat.beq pc 78 then some (.isub, 79, 0, 0, 0, 0) else none)) else (bif Nat.ble pc 79 then (bif Nat.beq pc 79 then some (.iastore, 80, 0, 0, 0, 0) else none) else (bif Nat.beq pc 80 then some (.aload_n 3, 81, 0, 0, 0, 0) else none))) else (bif Nat.ble pc 84 then (bif Nat.ble pc 81 then (bif Nat.beq pc 81 then some (.getfield 161, 84, 0, 2, 2, 66) else none) else (bif Nat.beq pc 84 then some (.iload_n 1, 85, 0, 0, 0, 0) else none)) else (bif Nat.ble pc 85 then (bif Nat.beq pc 85 then some (.dup2, 86, 0, 0, 0, 0) else none) else (bif Nat.ble pc 86 then (bif Nat.beq pc 86 then some (.iaload, 87, 0, 0, 0, 0) else none) else (bif Nat.beq pc 87 then some (.iload 5, 89, 0, 0, 0, 0) else none)))))) else (bif Nat.ble pc 103 then (bif Nat.ble pc 92 then (bif Nat.ble pc 90 then (bif Nat.ble pc 89 then (bif Nat.beq pc 89 then some (.iadd, 90, 0, 0, 0, 0) else none) else (bif Nat.beq pc 90 then some (.iastore, 91, 0, 0, 0, 0) else none)) else (bif Nat.ble pc 91 then (bif Nat.beq pc 91 then some (.aload_n 0, 92, 0, 0, 0, 0) else none) else (bif Nat.beq pc 92 then some (.getfield 10, 95, 0, 6, 0, 234) else none))) else (bif Nat.ble pc 96 then (bif Nat.ble pc 95 then (bif Nat.beq pc 95 then some (.iconst 1, 96, 0, 0, 0, 0) else none) else (bif Nat.beq pc 96 then some (.invokevirtual 164, 99, 4, 40, 2, 494) else none)) else (bif Nat.ble pc 99 then (bif Nat.beq pc 99 then some (.iload_n 2, 100, 0, 0, 0, 0) else none) else (bif Nat.ble pc 100 then (bif Nat.beq pc 100 then some (.ifCond .eq 12, 103, 112, 0, 0, 0) else none) else (bif Nat.beq pc 103 then some (.aload_n 3, 104, 0, 0, 0, 0) else none))))) else (bif Nat.ble pc 109 then (bif Nat.ble pc 107 then (bif Nat.ble pc 104 then (bif Nat.beq pc 104 then some (.getfield 161, 107, 0, 2, 2, 66) else none) else (bif Nat.beq pc 107 then some (.iload_n 1, 108, 0, 0, 0, 0) else none)) else (bif Nat.ble pc 108 then (bif Nat.beq pc 108 then some (.iaload, 109, 0, 0, 0, 0) else none) else (bif Nat.beq pc 109 then some (.goto 9, 112, 118, 0, 0, 0) else none))) else (bif Nat.ble pc 113 then (bif Nat.ble pc 112 then (bif Nat.beq pc 112 then some (.aload_n 3, 113, 0, 0, 0, 0) else none) else (bif Nat.beq pc 113 then some (.getfield 158, 116, 0, 2, 1, 63) else none)) else (bif Nat.ble pc 116 then (bif Nat.beq pc 116 then some (.iload_n 1, 117, 0, 0, 0, 0) else none) else (bif Nat.ble pc 117 then (bif Nat.beq pc 117 then some (.iaload, 118, 0, 0, 0, 0) else none) else (bif Nat.beq pc 118 then some (.ireturn, 119, 0, 0, 0, 0) else none))))))))
set_option maxRecDepth 100000 in
def fp_k61 (pc : Nat) : Option FpE := (bif Nat.ble pc 35 then (bif Nat.ble pc 15 then (bif Nat.ble pc 6 then (bif Nat.ble pc 1 then (bif Nat.ble pc 0 then (bif Nat.beq pc 0 then some (.iload_n 1, 1, 0, 0, 0, 0) else none) else (bif Nat.beq pc 1 then some (.iconst 0, 2, 0, 0, 0, 0) else none)) else (bif Nat.ble pc 2 then (bif Nat.beq pc 2 then some (.iconst 2, 3, 0, 0, 0, 0) else none) else (bif Nat.ble pc 3 then (bif Nat.beq pc 3 then some (.invokestatic 40, 6, 0, 77, 3, 257) else none) else (bif Nat.beq pc 6 then some (.ifCond .ne 5, 9, 11, 0, 0, 0) else none)))) else (bif Nat.ble pc 10 then (bif Nat.ble pc 9 then (bif Nat.beq pc 9 then some (.iconst (-1), 10, 0, 0, 0, 0) else none) else (bif Nat.beq pc 10 then some (.ireturn, 11, 0, 0, 0, 0) else none)) else (bif Nat.ble pc 11 then (bif Nat.beq pc 11 then some (.iload_n 2, 12, 0, 0, 0, 0) else none) else (bif Nat.ble pc 12 then (bif Nat.beq pc 12 then some (.getstatic 168, 15, 0, 27, 0, 499) else none) else (bif Nat.beq pc 15 then some (.iload_n 1, 16, 0, 0, 0, 0) else none))))) else (bif Nat.ble pc 22 then (bif Nat.ble pc 17 then (bif Nat.ble pc 16 then (bif Nat.beq pc 16 then some (.iaload, 17, 0, 0, 0, 0) else none) else (bif Nat.beq pc 17 then some (.getstatic 171, 20, 0, 28, 0, 501) else none)) else (bif Nat.ble pc 20 then (bif Nat.beq pc 20 then some (.iload_n 1, 21, 0, 0, 0, 0) else none) else (bif Nat.ble pc 21 then (bif Nat.beq pc 21 then some (.iaload, 22, 0, 0, 0, 0) else none) else (bif Nat.beq pc 22 then some (.invokestatic 40, 25, 0, 77, 3, 257) else none)))) else (bif Nat.ble pc 30 then (bif Nat.ble pc 25 then (bif Nat.beq pc 25 then some (.ifCond .ne 6, 28, 31, 0, 0, 0) else none) else (bif Nat.ble pc 28 then (bif Nat.beq pc 28 then some (.bipush (-2), 30, 0, 0, 0, 0) else none) else (bif Nat.beq pc 30 then some (.ireturn, 31, 0, 0, 0, 0) else none))) else (bif Nat.ble pc 31 then (bif Nat.beq pc 31 then some (.aload_n 0, 32, 0, 0, 0, 0) else none) else (bif Nat.ble pc 32 then (bif Nat.beq pc 32 then some (.getfield 10, 35, 0, 6, 0, 234) else none) else (bif Nat.beq pc 35 then some (.getfield 174, 38, 0, 4, 3, 148) else none)))))) else (bif Nat.ble pc 50 then (bif Nat.ble pc 42 then (bif Nat.ble pc 39 then (bif Nat.ble pc 38 then (bif Nat.beq pc 38 then some (.iload_n 1, 39, 0, 0, 0, 0) else none) else (bif Nat.beq pc 39 then some (.iaload, 40, 0, 0, 0, 0) else none)) else (bif Nat.ble pc 40 then (bif Nat.beq pc 40 then some (.istore_n 3, 41, 0, 0, 0, 0) else none) else (bif Nat.ble pc 41 then (bif Nat.beq pc 41 then some (.iload_n 3, 42, 0, 0, 0, 0) else none) else (bif Nat.beq pc 42 then some (.iload_n 2, 43, 0, 0, 0, 0) else none)))) else (bif Nat.ble pc 46 then (bif Nat.ble pc 43 then (bif Nat.beq pc 43 then some (.if_icmp .ne 6, 46, 49, 0, 0, 0) else none) else (bif Nat.beq pc 46 then some (.bipush (-5), 48, 0, 0, 0, 0) else none)) else (bif Nat.ble pc 48 then (bif Nat.beq pc 48 then some (.ireturn, 49, 0, 0, 0, 0) else none) else (bif Nat.ble pc 49 then (bif Nat.beq pc 49 then some (.aload_n 0, 50, 0, 0, 0, 0) else none) else (bif Nat.beq pc 50 then some (.getfield 29, 53, 0, 6, 4, 238) else none))))) else (bif Nat.ble pc 61 then (bif Nat.ble pc 54 then (bif Nat.ble pc 53 then (bif Nat.beq pc 53 then some (.aload_n 0, 54, 0, 0, 0, 0) else none) else (bif Nat.beq pc 54 then some (.getfield 10, 57, 0, 6, 0, 234) else none)) else (bif Nat.ble pc 57 then (bif Nat.beq pc 57 then some (.invokevirtual 58, 60, 0, 1, 2, 264) else none) else (bif Nat.ble pc 60 then (bif Nat.beq pc 60 then some (.aload_n 0, 61, 0, 0, 0, 0) else none) else (bif Nat.beq pc 61 then some (.getfield 10, 64, 0, 6, 0, 234) else none)))) else (bif Nat.ble pc 68 then (bif Nat.ble pc 64 then (bif Nat.beq pc 64 then some (.getfield 174, 67, 0, 4, 3, 148) else none) else (bif Nat.ble pc 67 then (bif Nat.beq pc 67 then some (.iload_n 1, 68, 0, 0, 0, 0) else none) else (bif Nat.beq pc 68 then some (.iload_n 2, 69, 0, 0, 0, 0) else none))) else (bif Nat.ble pc 69 then (bif Nat.beq pc 69 then some (.iastore, 70, 0, 0, 0, 0) else none) else (bif Nat.ble pc 70 then (bif Nat.beq pc 70 then some (.iload_n 3, 71, 0, 0, 0, 0) else none) else (bif Nat.beq pc 71 then some (.ireturn, 72, 0, 0, 0, 0) else none)))))))
set_option maxRecDepth 100000 in
def fp_k62 (pc : Nat) : Option FpE := (bif Nat.ble pc 26 then (bif Nat.ble pc 12 then (bif Nat.ble pc 4 then (bif Nat.ble pc 0 then (bif Nat.beq pc 0 then some (.aload_n 0, 1, 0, 0, 0, 0) else none) else (bif Nat.ble pc 1 then (bif Nat.beq pc 1 then some (.getfield 36, 4, 0, 6, 5, 239) else none) else (bif Nat.beq pc 4 then some (.getfield 177, 7, 0, 3, 1, 207) else none))) else (bif Nat.ble pc 7 then (bif Nat.beq pc 7 then some (.bipush 80, 9, 0, 0, 0, 0) else none) else (bif Nat.ble pc 9 then (bif Nat.beq pc 9 then some (.if_icmp .lt 6, 12, 15, 0, 0, 0) else none) else (bif Nat.beq pc 12 then some (.bipush (-3), 14, 0, 0, 0, 0) else none)))) else (bif Nat.ble pc 16 then (bif Nat.ble pc 14 then (bif Nat.beq pc 14 then some (.ireturn, 15, 0, 0, 0, 0) else none) else (bif Nat.ble pc 15 then (bif Nat.beq pc 15 then some (.aload_n 0, 16, 0, 0, 0, 0) else none) else (bif Nat.beq pc 16 then some (.getfield 36, 19, 0, 6, 5, 239) else none))) else (bif Nat.ble pc 22 then (bif Nat.ble pc 19 then (bif Nat.beq pc 19 then some (.getfield 180, 22, 0, 3, 0, 205) else none) else (bif Nat.beq pc 22 then some (.aload_n 0, 23, 0, 0, 0, 0) else none)) else (bif Nat.ble pc 23 then (bif Nat.beq pc 23 then some (.getfield 36, 26, 0, 6, 5, 239) else none) else (bif Nat.beq pc 26 then some (.getfield 177, 29, 0, 3, 1, 207) else none))))) else (bif Nat.ble pc 36 then (bif Nat.ble pc 31 then (bif Nat.ble pc 29 then (bif Nat.beq pc 29 then some (.iload_n 1, 30, 0, 0, 0, 0) else none) else (bif Nat.ble pc 30 then (bif Nat.beq pc 30 then some (.castore, 31, 0, 0, 0, 0) else none) else (bif Nat.beq pc 31 then some (.aload_n 0, 32, 0, 0, 0, 0) else none))) else (bif Nat.ble pc 32 then (bif Nat.beq pc 32 then some (.getfield 36, 35, 0, 6, 5, 239) else none) else (bif Nat.ble pc 35 then (bif Nat.beq pc 35 then some (.dup, 36, 0, 0, 0, 0) else none) else (bif Nat.beq pc 36 then some (.getfield 177, 39, 0, 3, 1, 207) else none)))) else (bif Nat.ble pc 41 then (bif Nat.ble pc 39 then (bif Nat.beq pc 39 then some (.iconst 1, 40, 0, 0, 0, 0) else none) else (bif Nat.ble pc 40 then (bif Nat.beq pc 40 then some (.iadd, 41, 0, 0, 0, 0) else none) else (bif Nat.beq pc 41 then some (.putfield 177, 44, 0, 3, 1, 207) else none))) else (bif Nat.ble pc 45 then (bif Nat.ble pc 44 then (bif Nat.beq pc 44 then some (.aload_n 0, 45, 0, 0, 0, 0) else none) else (bif Nat.beq pc 45 then some (.getfield 36, 48, 0, 6, 5, 239) else none)) else (bif Nat.ble pc 48 then (bif Nat.beq pc 48 then some (.getfield 177, 51, 0, 3, 1, 207) else none) else (bif Nat.beq pc 51 then some (.ireturn, 52, 0, 0, 0, 0) else none))))))
set_option maxRecDepth 100000 in
def fp_k63 (pc : Nat) : Option FpE := (bif Nat.ble pc 8 then (bif Nat.ble pc 1 then (bif Nat.ble pc 0 then (bif Nat.beq pc 0 then some (.aload_n 0, 1, 0, 0, 0, 0) else none) else (bif Nat.beq pc 1 then some (.getfield 36, 4, 0, 6, 5, 239) else none)) else (bif Nat.ble pc 4 then (bif Nat.beq pc 4 then some (.getfield 177, 7, 0, 3, 1, 207) else none) else (bif Nat.ble pc 7 then (bif Nat.beq pc 7 then some (.istore_n 1, 8, 0, 0, 0, 0) else none) else (bif Nat.beq pc 8 then some (.aload_n 0, 9, 0, 0, 0, 0) else none)))) else (bif Nat.ble pc 12 then (bif Nat.ble pc 9 then (bif Nat.beq pc 9 then some (.getfield 36, 12, 0, 6, 5, 239) else none) else (bif Nat.beq pc 12 then some (.iconst 0, 13, 0, 0, 0, 0) else none)) else (bif Nat.ble pc 13 then (bif Nat.beq pc 13 then some (.putfield 177, 16, 0, 3, 1, 207) else none) else (bif Nat.ble pc 16 then (bif Nat.beq pc 16 then some (.iload_n 1, 17, 0, 0, 0, 0) else none) else (bif Nat.beq pc 17 then some (.ireturn, 18, 0, 0, 0, 0) else none)))))
set_option maxRecDepth 100000 in
def fp_k64 (pc : Nat) : Option FpE := (bif Nat.ble pc 13 then (bif Nat.ble pc 4 then (bif Nat.ble pc 0 then (bif Nat.beq pc 0 then some (.aload_n 0, 1, 0, 0, 0, 0) else none) else (bif Nat.ble pc 1 then (bif Nat.beq pc 1 then some (.getfield 29, 4, 0, 6, 4, 238) else none) else (bif Nat.beq pc 4 then some (.getfield 184, 7, 0, 0, 2, 190) else none))) else (bif Nat.ble pc 10 then (bif Nat.ble pc 7 then (bif Nat.beq pc 7 then some (.ifCond .ne 6, 10, 13, 0, 0, 0) else none) else (bif Nat.beq pc 10 then some (.bipush (-5), 12, 0, 0, 0, 0) else none)) else (bif Nat.ble pc 12 then (bif Nat.beq pc 12 then some (.ireturn, 13, 0, 0, 0, 0) else none) else (bif Nat.beq pc 13 then some (.aload_n 0, 14, 0, 0, 0, 0) else none)))) else (bif Nat.ble pc 21 then (bif Nat.ble pc 17 then (bif Nat.ble pc 14 then (bif Nat.beq pc 14 then some (.getfield 29, 17, 0, 6, 4, 238) else none) else (bif Nat.beq pc 17 then some (.aload_n 0, 18, 0, 0, 0, 0) else none)) else (bif Nat.ble pc 18 then (bif Nat.beq pc 18 then some (.getfield 10, 21, 0, 6, 0, 234) else none) else (bif Nat.beq pc 21 then some (.invokevirtual 185, 24, 0, 2, 2, 515) else none))) else (bif Nat.ble pc 25 then (bif Nat.ble pc 24 then (bif Nat.beq pc 24 then some (.aload_n 0, 25, 0, 0, 0, 0) else none) else (bif Nat.beq pc 25 then some (.getfield 29, 28, 0, 6, 4, 238) else none)) else (bif Nat.ble pc 28 then (bif Nat.beq pc 28 then some (.getfield 184, 31, 0, 0, 2, 190) else none) else (bif Nat.beq pc 31 then some (.ireturn, 32, 0, 0, 0, 0) else none)))))
set_option maxRecDepth 100000 in
def fp_k65 (pc : Nat) : Option FpE := (bif Nat.ble pc 11 then (bif Nat.ble pc 4 then (bif Nat.ble pc 0 then (bif Nat.beq pc 0 then some (.aload_n 0, 1, 0, 0, 0, 0) else none) else (bif Nat.ble pc 1 then (bif Nat.beq pc 1 then some (.getfield 19, 4, 0, 6, 2, 236) else none) else (bif Nat.beq pc 4 then some (.aload_n 0, 5, 0, 0, 0, 0) else none))) else (bif Nat.ble pc 5 then (bif Nat.beq pc 5 then some (.getfield 10, 8, 0, 6, 0, 234) else none) else (bif Nat.ble pc 8 then (bif Nat.beq pc 8 then some (.invokevirtual 107, 11, 4, 34, 2, 373) else none) else (bif Nat.beq pc 11 then some (.aload_n 0, 12, 0, 0, 0, 0) else none)))) else (bif Nat.ble pc 16 then (bif Nat.ble pc 12 then (bif Nat.beq pc 12 then some (.iconst 1, 13, 0, 0, 0, 0) else none) else (bif Nat.ble pc 13 then (bif Nat.beq pc 13 then some (.putfield 22, 16, 0, 6, 3, 237) else none) else (bif Nat.beq pc 16 then some (.aload_n 0, 17, 0, 0, 0, 0) else none))) else (bif Nat.ble pc 17 then (bif Nat.beq pc 17 then some (.getfield 10, 20, 0, 6, 0, 234) else none) else (bif Nat.ble pc 20 then (bif Nat.beq pc 20 then some (.getfield 54, 23, 0, 4, 4, 150) else none) else (bif Nat.beq pc 23 then some (.ireturn, 24, 0, 0, 0, 0) else none)))))
set_option maxRecDepth 100000 in
def fp_k66 (pc : Nat) : Option FpE := (bif Nat.ble pc 15 then (bif Nat.ble pc 7 then (bif Nat.ble pc 1 then (bif Nat.ble pc 0 then (bif Nat.beq pc 0 then some (.aload_n 0, 1, 0, 0, 0, 0) else none) else (bif Nat.beq pc 1 then some (.getfield 22, 4, 0, 6, 3, 237) else none)) else (bif Nat.ble pc 4 then (bif Nat.beq pc 4 then some (.ifCond .ne 6, 7, 10, 0, 0, 0) else none) else (bif Nat.beq pc 7 then some (.bipush (-5), 9, 0, 0, 0, 0) else none))) else (bif Nat.ble pc 10 then (bif Nat.ble pc 9 then (bif Nat.beq pc 9 then some (.ireturn, 10, 0, 0, 0, 0) else none) else (bif Nat.beq pc 10 then some (.aload_n 0, 11, 0, 0, 0, 0) else none)) else (bif Nat.ble pc 11 then (bif Nat.beq pc 11 then some (.getfield 29, 14, 0, 6, 4, 238) else none) else (bif Nat.ble pc 14 then (bif Nat.beq pc 14 then some (.aload_n 0, 15, 0, 0, 0, 0) else none) else (bif Nat.beq pc 15 then some (.getfield 10, 18, 0, 6, 0, 234) else none))))) else (bif Nat.ble pc 26 then (bif Nat.ble pc 21 then (bif Nat.ble pc 18 then (bif Nat.beq pc 18 then some (.invokevirtual 58, 21, 0, 1, 2, 264) else none) else (bif Nat.beq pc 21 then some (.aload_n 0, 22, 0, 0, 0, 0) else none)) else (bif Nat.ble pc 22 then (bif Nat.beq pc 22 then some (.getfield 10, 25, 0, 6, 0, 234) else none) else (bif Nat.ble pc 25 then (bif Nat.beq pc 25 then some (.aload_n 0, 26, 0, 0, 0, 0) else none) else (bif Nat.beq pc 26 then some (.getfield 19, 29, 0, 6, 2, 236) else none)))) else (bif Nat.ble pc 32 then (bif Nat.ble pc 29 then (bif Nat.beq pc 29 then some (.invokevirtual 107, 32, 4, 34, 2, 373) else none) else (bif Nat.beq pc 32 then some (.aload_n 0, 33, 0, 0, 0, 0) else none)) else (bif Nat.ble pc 33 then (bif Nat.beq pc 33 then some (.getfield 10, 36, 0, 6, 0, 234) else none) else (bif Nat.ble pc 36 then (bif Nat.beq pc 36 then some (.getfield 54, 39, 0, 4, 4, 150) else none) else (bif Nat.beq pc 39 then some (.ireturn, 40, 0, 0, 0, 0) else none))))))
set_option maxRecDepth 100000 in
def fp_k67 (pc : Nat) : Option FpE := (bif Nat.ble pc 18 then (bif Nat.ble pc 7 then (bif Nat.ble pc 1 then (bif Nat.ble pc 0 then (bif Nat.beq pc 0 then some (.aload_n 0, 1, 0, 0, 0, 0) else none) else (bif Nat.beq pc 1 then some (.getfield 10, 4, 0, 6, 0, 234) else none)) else (bif Nat.ble pc 4 then (bif Nat.beq pc 4 then some (.getfield 77, 7, 0, 4, 0, 142) else none) else (bif Nat.beq pc 7 then some (.iload_n 1, 8, 0, 0, 0, 0) else none))) else (bif Nat.ble pc 11 then (bif Nat.ble pc 8 then (bif Nat.beq pc 8 then some (.invokevirtual 81, 11, 2, 12, 2, 310) else none) else (bif Nat.beq pc 11 then some (.ifCond .eq 10, 14, 21, 0, 0, 0) else none)) else (bif Nat.ble pc 14 then (bif Nat.beq pc 14 then some (.iload_n 2, 15, 0, 0, 0, 0) else none) else (bif Nat.ble pc 15 then (bif Nat.beq pc 15 then some (.invokestatic 84, 18, 0, 78, 1, 314) else none) else (bif Nat.beq pc 18 then some (.ifCond .ne 5, 21, 23, 0, 0, 0) else none))))) else (bif Nat.ble pc 24 then (bif Nat.ble pc 22 then (bif Nat.ble pc 21 then (bif Nat.beq pc 21 then some (.iconst (-1), 22, 0, 0, 0, 0) else none) else (bif Nat.beq pc 22 then some (.ireturn, 23, 0, 0, 0, 0) else none)) else (bif Nat.ble pc 23 then (bif Nat.beq pc 23 then some (.aload_n 0, 24, 0, 0, 0, 0) else none) else (bif Nat.beq pc 24 then some (.getfield 10, 27, 0, 6, 0, 234) else none))) else (bif Nat.ble pc 30 then (bif Nat.ble pc 27 then (bif Nat.beq pc 27 then some (.getfield 77, 30, 0, 4, 0, 142) else none) else (bif Nat.beq pc 30 then some (.iload_n 1, 31, 0, 0, 0, 0) else none)) else (bif Nat.ble pc 31 then (bif Nat.beq pc 31 then some (.iload_n 2, 32, 0, 0, 0, 0) else none) else (bif Nat.ble pc 32 then (bif Nat.beq pc 32 then some (.invokevirtual 188, 35, 2, 14, 3, 531) else none) else (bif Nat.beq pc 35 then some (.ireturn, 36, 0, 0, 0, 0) else none))))))
set_option maxRecDepth 100000 in
def fp_k68 (pc : Nat) : Option FpE := (bif Nat.ble pc 76 then (bif Nat.ble pc 18 then (bif Nat.ble pc 8 then (bif Nat.ble pc 1 then (bif Nat.ble pc 0 then (bif Nat.beq pc 0 then some (.aload_n 0, 1, 0, 0, 0, 0) else none) else (bif Nat.beq pc 1 then some (.getfield 10, 4, 0, 6, 0, 234) else none)) else (bif Nat.ble pc 4 then (bif Nat.beq pc 4 then some (.getfield 77, 7, 0, 4, 0, 142) else none) else (bif Nat.ble pc 7 then (bif Nat.beq pc 7 then some (.astore_n 3, 8, 0, 0, 0, 0) else none) else (bif Nat.beq pc 8 then some (.aload_n 3, 9, 0, 0, 0, 0) else none)))) else (bif Nat.ble pc 13 then (bif Nat.ble pc 9 then (bif Nat.beq pc 9 then some (.iload_n 1, 10, 0, 0, 0, 0) else none) else (bif Nat.ble pc 10 then (bif Nat.beq pc 10 then some (.invokevirtual 81, 13, 2, 12, 2, 310) else none) else (bif Nat.beq pc 13 then some (.ifCond .ne 5, 16, 18, 0, 0, 0) else none))) else (bif Nat.ble pc 16 then (bif Nat.beq pc 16 then some (.iconst (-1), 17, 0, 0, 0, 0) else none) else (bif Nat.ble pc 17 then (bif Nat.beq pc 17 then some (.ireturn, 18, 0, 0, 0, 0) else none) else (bif Nat.beq pc 18 then some (.iload_n 2, 19, 0, 0, 0, 0) else none))))) else (bif Nat.ble pc 66 then (bif Nat.ble pc 61 then (bif Nat.ble pc 19 then (bif Nat.beq pc 19 then some (.tableswitch 92 0 6 #[41, 47, 53, 60, 67, 79, 86], 60, 111, 1, 0, 0) else none) else (bif Nat.ble pc 60 then (bif Nat.beq pc 60 then some (.aload_n 3, 61, 0, 0, 0, 0) else none) else (bif Nat.beq pc 61 then some (.iload_n 1, 62, 0, 0, 0, 0) else none))) else (bif Nat.ble pc 62 then (bif Nat.beq pc 62 then some (.invokevirtual 191, 65, 2, 15, 2, 536) else none) else (bif Nat.ble pc 65 then (bif Nat.beq pc 65 then some (.ireturn, 66, 0, 0, 0, 0) else none) else (bif Nat.beq pc 66 then some (.aload_n 3, 67, 0, 0, 0, 0) else none)))) else (bif Nat.ble pc 71 then (bif Nat.ble pc 67 then (bif Nat.beq pc 67 then some (.iload_n 1, 68, 0, 0, 0, 0) else none) else (bif Nat.ble pc 68 then (bif Nat.beq pc 68 then some (.invokevirtual 194, 71, 2, 16, 2, 537) else none) else (bif Nat.beq pc 71 then some (.ireturn, 72, 0, 0, 0, 0) else none))) else (bif Nat.ble pc 72 then (bif Nat.beq pc 72 then some (.aload_n 3, 73, 0, 0, 0, 0) else none) else (bif Nat.ble pc 73 then (bif Nat.beq pc 73 then some (.getfield 158, 76, 0, 2, 1, 63) else none) else (bif Nat.beq pc 76 then some (.iload_n 1, 77, 0, 0, 0, 0) else none)))))) else (bif Nat.ble pc 94 then (bif Nat.ble pc 84 then (bif Nat.ble pc 79 then (bif Nat.ble pc 77 then (bif Nat.beq pc 77 then some (.iaload, 78, 0, 0, 0, 0) else none) else (bif Nat.ble pc 78 then (bif Nat.beq pc 78 then some (.ireturn, 79, 0, 0, 0, 0) else none) else (bif Nat.beq pc 79 then some (.aload_n 3, 80, 0, 0, 0, 0) else none))) else (bif Nat.ble pc 80 then (bif Nat.beq pc 80 then some (.getfield 161, 83, 0, 2, 2, 66) else none) else (bif Nat.ble pc 83 then (bif Nat.beq pc 83 then some (.iload_n 1, 84, 0, 0, 0, 0) else none) else (bif Nat.beq pc 84 then some (.iaload, 85, 0, 0, 0, 0) else none)))) else (bif Nat.ble pc 87 then (bif Nat.ble pc 85 then (bif Nat.beq pc 85 then some (.ireturn, 86, 0, 0, 0, 0) else none) else (bif Nat.ble pc 86 then (bif Nat.beq pc 86 then some (.aload_n 0, 87, 0, 0, 0, 0) else none) else (bif Nat.beq pc 87 then some (.getfield 10, 90, 0, 6, 0, 234) else none))) else (bif Nat.ble pc 90 then (bif Nat.beq pc 90 then some (.getfield 92, 93, 0, 4, 2, 146) else none) else (bif Nat.ble pc 93 then (bif Nat.beq pc 93 then some (.iload_n 1, 94, 0, 0, 0, 0) else none) else (bif Nat.beq pc 94 then some (.invokevirtual 197, 97, 1, 9, 2, 541) else none))))) else (bif Nat.ble pc 104 then (bif Nat.ble pc 99 then (bif Nat.ble pc 97 then (bif Nat.beq pc 97 then some (.ireturn, 98, 0, 0, 0, 0) else none) else (bif Nat.ble pc 98 then (bif Nat.beq pc 98 then some (.aload_n 3, 99, 0, 0, 0, 0) else none) else (bif Nat.beq pc 99 then some (.getfield 200, 102, 0, 2, 3, 69) else none))) else (bif Nat.ble pc 102 then (bif Nat.beq pc 102 then some (.iload_n 1, 103, 0, 0, 0, 0) else none) else (bif Nat.ble pc 103 then (bif Nat.beq pc 103 then some (.iaload, 104, 0, 0, 0, 0) else none) else (bif Nat.beq pc 104 then some (.ireturn, 105, 0, 0, 0, 0) else none)))) else (bif Nat.ble pc 107 then (bif Nat.ble pc 105 then (bif Nat.beq pc 105 then some (.aload_n 3, 106, 0, 0, 0, 0) else none) else (bif Nat.ble pc 106 then (bif Nat.beq pc 106 then some (.iload_n 1, 107, 0, 0, 0, 0) else none) else (bif Nat.beq pc 107 then some (.invokevirtual 203, 110, 2, 19, 2, 545) else none))) else (bif Nat.ble pc 110 then (bif Nat.beq pc 110 then some (.ireturn, 111, 0, 0, 0, 0) else none) else (bif Nat.ble pc 111 then (bif Nat.beq pc 111 then some (.bipush (-2), 113, 0, 0, 0, 0) else none) else (bif Nat.beq pc 113 then some (.ireturn, 114, 0, 0, 0, 0) else none)))))))
set_option maxRecDepth 100000 in
def fp_k69 (pc : Nat) : Option FpE := (bif Nat.ble pc 33 then (bif Nat.ble pc 15 then (bif Nat.ble pc 7 then (bif Nat.ble pc 1 then (bif Nat.ble pc 0 then (bif Nat.beq pc 0 then some (.aload_n 0, 1, 0, 0, 0, 0) else none) else (bif Nat.beq pc 1 then some (.getfield 10, 4, 0, 6, 0, 234) else none)) else (bif Nat.ble pc 4 then (bif Nat.beq pc 4 then some (.getfield 77, 7, 0, 4, 0, 142) else none) else (bif Nat.beq pc 7 then some (.iload_n 1, 8, 0, 0, 0, 0) else none))) else (bif Nat.ble pc 11 then (bif Nat.ble pc 8 then (bif Nat.beq pc 8 then some (.invokevirtual 81, 11, 2, 12, 2, 310) else none) else (bif Nat.beq pc 11 then some (.ifCond .eq 10, 14, 21, 0, 0, 0) else none)) else (bif Nat.ble pc 14 then (bif Nat.beq pc 14 then some (.iload_n 2, 15, 0, 0, 0, 0) else none) else (bif Nat.beq pc 15 then some (.invokestatic 84, 18, 0, 78, 1, 314) else none)))) else (bif Nat.ble pc 23 then (bif Nat.ble pc 21 then (bif Nat.ble pc 18 then (bif Nat.beq pc 18 then some (.ifCond .ne 5, 21, 23, 0, 0, 0) else none) else (bif Nat.beq pc 21 then some (.iconst (-1), 22, 0, 0, 0, 0) else none)) else (bif Nat.ble pc 22 then (bif Nat.beq pc 22 then some (.ireturn, 23, 0, 0, 0, 0) else none) else (bif Nat.beq pc 23 then some (.iload_n 3, 24, 0, 0, 0, 0) else none))) else (bif Nat.ble pc 25 then (bif Nat.ble pc 24 then (bif Nat.beq pc 24 then some (.iconst 0, 25, 0, 0, 0, 0) else none) else (bif Nat.beq pc 25 then some (.bipush 7, 27, 0, 0, 0, 0) else none)) else (bif Nat.ble pc 27 then (bif Nat.beq pc 27 then some (.invokestatic 40, 30, 0, 77, 3, 257) else none) else (bif Nat.ble pc 30 then (bif Nat.beq pc 30 then some (.ifCond .ne 6, 33, 36, 0, 0, 0) else none) else (bif Nat.beq pc 33 then some (.bipush (-2), 35, 0, 0, 0, 0) else none)))))) else (bif Nat.ble pc 49 then (bif Nat.ble pc 40 then (bif Nat.ble pc 36 then (bif Nat.ble pc 35 then (bif Nat.beq pc 35 then some (.ireturn, 36, 0, 0, 0, 0) else none) else (bif Nat.beq pc 36 then some (.aload_n 0, 37, 0, 0, 0, 0) else none)) else (bif Nat.ble pc 37 then (bif Nat.beq pc 37 then some (.getfield 10, 40, 0, 6, 0, 234) else none) else (bif Nat.beq pc 40 then some (.getfield 77, 43, 0, 4, 0, 142) else none))) else (bif Nat.ble pc 44 then (bif Nat.ble pc 43 then (bif Nat.beq pc 43 then some (.iload_n 1, 44, 0, 0, 0, 0) else none) else (bif Nat.beq pc 44 then some (.iload_n 2, 45, 0, 0, 0, 0) else none)) else (bif Nat.ble pc 45 then (bif Nat.beq pc 45 then some (.invokevirtual 188, 48, 2, 14, 3, 531) else none) else (bif Nat.ble pc 48 then (bif Nat.beq pc 48 then some (.aload_n 0, 49, 0, 0, 0, 0) else none) else (bif Nat.beq pc 49 then some (.getfield 10, 52, 0, 6, 0, 234) else none))))) else (bif Nat.ble pc 57 then (bif Nat.ble pc 55 then (bif Nat.ble pc 52 then (bif Nat.beq pc 52 then some (.getfield 174, 55, 0, 4, 3, 148) else none) else (bif Nat.beq pc 55 then some (.iconst 1, 56, 0, 0, 0, 0) else none)) else (bif Nat.ble pc 56 then (bif Nat.beq pc 56 then some (.iaload, 57, 0, 0, 0, 0) else none) else (bif Nat.beq pc 57 then some (.iload_n 3, 58, 0, 0, 0, 0) else none))) else (bif Nat.ble pc 59 then (bif Nat.ble pc 58 then (bif Nat.beq pc 58 then some (.iconst 2, 59, 0, 0, 0, 0) else none) else (bif Nat.beq pc 59 then some (.idiv, 60, 0, 0, 0, 0) else none)) else (bif Nat.ble pc 60 then (bif Nat.beq pc 60 then some (.imul, 61, 0, 0, 0, 0) else none) else (bif Nat.ble pc 61 then (bif Nat.beq pc 61 then some (.iadd, 62, 0, 0, 0, 0) else none) else (bif Nat.beq pc 62 then some (.ireturn, 63, 0, 0, 0, 0) else none)))))))
set_option maxRecDepth 100000 in
def fp_k70 (pc : Nat) : Option FpE := (bif Nat.ble pc 54 then (bif Nat.ble pc 14 then (bif Nat.ble pc 4 then (bif Nat.ble pc 0 then (bif Nat.beq pc 0 then some (.aload_n 0, 1, 0, 0, 0, 0) else none) else (bif Nat.ble pc 1 then (bif Nat.beq pc 1 then some (.getfield 10, 4, 0, 6, 0, 234) else none) else (bif Nat.beq pc 4 then some (.getfield 44, 7, 0, 4, 1, 144) else none))) else (bif Nat.ble pc 8 then (bif Nat.ble pc 7 then (bif Nat.beq pc 7 then some (.iload_n 1, 8, 0, 0, 0, 0) else none) else (bif Nat.beq pc 8 then some (.invokevirtual 66, 11, 5, 45, 2, 298) else none)) else (bif Nat.ble pc 11 then (bif Nat.beq pc 11 then some (.ifCond .ne 5, 14, 16, 0, 0, 0) else none) else (bif Nat.beq pc 14 then some (.iconst (-1), 15, 0, 0, 0, 0) else none)))) else (bif Nat.ble pc 44 then (bif Nat.ble pc 16 then (bif Nat.ble pc 15 then (bif Nat.beq pc 15 then some (.ireturn, 16, 0, 0, 0, 0) else none) else (bif Nat.beq pc 16 then some (.iload_n 2, 17, 0, 0, 0, 0) else none)) else (bif Nat.ble pc 17 then (bif Nat.beq pc 17 then some (.tableswitch 62 0 2 #[27, 40, 53], 44, 79, 2, 0, 0) else none) else (bif Nat.beq pc 44 then some (.aload_n 0, 45, 0, 0, 0, 0) else none))) else (bif Nat.ble pc 48 then (bif Nat.ble pc 45 then (bif Nat.beq pc 45 then some (.getfield 10, 48, 0, 6, 0, 234) else none) else (bif Nat.beq pc 48 then some (.getfield 44, 51, 0, 4, 1, 144) else none)) else (bif Nat.ble pc 51 then (bif Nat.beq pc 51 then some (.getfield 70, 54, 0, 5, 0, 92) else none) else (bif Nat.beq pc 54 then some (.iload_n 1, 55, 0, 0, 0, 0) else none))))) else (bif Nat.ble pc 68 then (bif Nat.ble pc 58 then (bif Nat.ble pc 56 then (bif Nat.ble pc 55 then (bif Nat.beq pc 55 then some (.iaload, 56, 0, 0, 0, 0) else none) else (bif Nat.beq pc 56 then some (.ireturn, 57, 0, 0, 0, 0) else none)) else (bif Nat.ble pc 57 then (bif Nat.beq pc 57 then some (.aload_n 0, 58, 0, 0, 0, 0) else none) else (bif Nat.beq pc 58 then some (.getfield 10, 61, 0, 6, 0, 234) else none))) else (bif Nat.ble pc 64 then (bif Nat.ble pc 61 then (bif Nat.beq pc 61 then some (.getfield 44, 64, 0, 4, 1, 144) else none) else (bif Nat.beq pc 64 then some (.getfield 74, 67, 0, 5, 1, 96) else none)) else (bif Nat.ble pc 67 then (bif Nat.beq pc 67 then some (.iload_n 1, 68, 0, 0, 0, 0) else none) else (bif Nat.beq pc 68 then some (.iaload, 69, 0, 0, 0, 0) else none)))) else (bif Nat.ble pc 74 then (bif Nat.ble pc 70 then (bif Nat.ble pc 69 then (bif Nat.beq pc 69 then some (.ireturn, 70, 0, 0, 0, 0) else none) else (bif Nat.beq pc 70 then some (.aload_n 0, 71, 0, 0, 0, 0) else none)) else (bif Nat.ble pc 71 then (bif Nat.beq pc 71 then some (.getfield 10, 74, 0, 6, 0, 234) else none) else (bif Nat.beq pc 74 then some (.iload_n 1, 75, 0, 0, 0, 0) else none))) else (bif Nat.ble pc 78 then (bif Nat.ble pc 75 then (bif Nat.beq pc 75 then some (.invokevirtual 206, 78, 4, 36, 2, 558) else none) else (bif Nat.beq pc 78 then some (.ireturn, 79, 0, 0, 0, 0) else none)) else (bif Nat.ble pc 79 then (bif Nat.beq pc 79 then some (.bipush (-2), 81, 0, 0, 0, 0) else none) else (bif Nat.beq pc 81 then some (.ireturn, 82, 0, 0, 0, 0) else none))))))
set_option maxRecDepth 100000 in
def fp_k71 (pc : Nat) : Option FpE := (bif Nat.ble pc 56 then (bif Nat.ble pc 16 then (bif Nat.ble pc 7 then (bif Nat.ble pc 1 then (bif Nat.ble pc 0 then (bif Nat.beq pc 0 then some (.aload_n 0, 1, 0, 0, 0, 0) else none) else (bif Nat.beq pc 1 then some (.getfield 10, 4, 0, 6, 0, 234) else none)) else (bif Nat.ble pc 4 then (bif Nat.beq pc 4 then some (.getfield 92, 7, 0, 4, 2, 146) else none) else (bif Nat.beq pc 7 then some (.astore_n 3, 8, 0, 0, 0, 0) else none))) else (bif Nat.ble pc 9 then (bif Nat.ble pc 8 then (bif Nat.beq pc 8 then some (.aload_n 3, 9, 0, 0, 0, 0) else none) else (bif Nat.beq pc 9 then some (.iload_n 1, 10, 0, 0, 0, 0) else none)) else (bif Nat.ble pc 10 then (bif Nat.beq pc 10 then some (.invokevirtual 132, 13, 1, 4, 2, 395) else none) else (bif Nat.ble pc 13 then (bif Nat.beq pc 13 then some (.ifCond .ne 5, 16, 18, 0, 0, 0) else none) else (bif Nat.beq pc 16 then some (.iconst (-1), 17, 0, 0, 0, 0) else none))))) else (bif Nat.ble pc 49 then (bif Nat.ble pc 18 then (bif Nat.ble pc 17 then (bif Nat.beq pc 17 then some (.ireturn, 18, 0, 0, 0, 0) else none) else (bif Nat.beq pc 18 then some (.iload_n 2, 19, 0, 0, 0, 0) else none)) else (bif Nat.ble pc 19 then (bif Nat.beq pc 19 then some (.tableswitch 69 0 3 #[29, 36, 43, 50], 48, 88, 3, 0, 0) else none) else (bif Nat.ble pc 48 then (bif Nat.beq pc 48 then some (.aload_n 3, 49, 0, 0, 0, 0) else none) else (bif Nat.beq pc 49 then some (.getfield 209, 52, 0, 1, 0, 114) else none)))) else (bif Nat.ble pc 53 then (bif Nat.ble pc 52 then (bif Nat.beq pc 52 then some (.iload_n 1, 53, 0, 0, 0, 0) else none) else (bif Nat.beq pc 53 then some (.iaload, 54, 0, 0, 0, 0) else none)) else (bif Nat.ble pc 54 then (bif Nat.beq pc 54 then some (.ireturn, 55, 0, 0, 0, 0) else none) else (bif Nat.ble pc 55 then (bif Nat.beq pc 55 then some (.aload_n 3, 56, 0, 0, 0, 0) else none) else (bif Nat.beq pc 56 then some (.getfield 211, 59, 0, 1, 1, 117) else none)))))) else (bif Nat.ble pc 70 then (bif Nat.ble pc 63 then (bif Nat.ble pc 60 then (bif Nat.ble pc 59 then (bif Nat.beq pc 59 then some (.iload_n 1, 60, 0, 0, 0, 0) else none) else (bif Nat.beq pc 60 then some (.iaload, 61, 0, 0, 0, 0) else none)) else (bif Nat.ble pc 61 then (bif Nat.beq pc 61 then some (.ireturn, 62, 0, 0, 0, 0) else none) else (bif Nat.ble pc 62 then (bif Nat.beq pc 62 then some (.aload_n 3, 63, 0, 0, 0, 0) else none) else (bif Nat.beq pc 63 then some (.getfield 212, 66, 0, 1, 2, 119) else none)))) else (bif Nat.ble pc 67 then (bif Nat.ble pc 66 then (bif Nat.beq pc 66 then some (.iload_n 1, 67, 0, 0, 0, 0) else none) else (bif Nat.beq pc 67 then some (.iaload, 68, 0, 0, 0, 0) else none)) else (bif Nat.ble pc 68 then (bif Nat.beq pc 68 then some (.ireturn, 69, 0, 0, 0, 0) else none) else (bif Nat.ble pc 69 then (bif Nat.beq pc 69 then some (.aload_n 0, 70, 0, 0, 0, 0) else none) else (bif Nat.beq pc 70 then some (.getfield 10, 73, 0, 6, 0, 234) else none))))) else (bif Nat.ble pc 82 then (bif Nat.ble pc 74 then (bif Nat.ble pc 73 then (bif Nat.beq pc 73 then some (.iload_n 1, 74, 0, 0, 0, 0) else none) else (bif Nat.beq pc 74 then some (.invokevirtual 133, 77, 4, 41, 2, 399) else none)) else (bif Nat.ble pc 77 then (bif Nat.beq pc 77 then some (.bipush (-5), 79, 0, 0, 0, 0) else none) else (bif Nat.ble pc 79 then (bif Nat.beq pc 79 then some (.if_icmp .ne 7, 82, 86, 0, 0, 0) else none) else (bif Nat.beq pc 82 then some (.iconst 0, 83, 0, 0, 0, 0) else none)))) else (bif Nat.ble pc 86 then (bif Nat.ble pc 83 then (bif Nat.beq pc 83 then some (.goto 4, 86, 87, 0, 0, 0) else none) else (bif Nat.beq pc 86 then some (.iconst 1, 87, 0, 0, 0, 0) else none)) else (bif Nat.ble pc 87 then (bif Nat.beq pc 87 then some (.ireturn, 88, 0, 0, 0, 0) else none) else (bif Nat.ble pc 88 then (bif Nat.beq pc 88 then some (.bipush (-2), 90, 0, 0, 0, 0) else none) else (bif Nat.beq pc 90 then some (.ireturn, 91, 0, 0, 0, 0) else none)))))))
set_option maxRecDepth 100000 in
def fp_k72 (pc : Nat) : Option FpE := (bif Nat.ble pc 105 then (bif Nat.ble pc 41 then (bif Nat.ble pc 21 then (bif Nat.ble pc 8 then (bif Nat.ble pc 1 then (bif Nat.ble pc 0 then (bif Nat.beq pc 0 then some (.aload_n 0, 1, 0, 0, 0, 0) else none) else (bif Nat.beq pc 1 then some (.getfield 10, 4, 0, 6, 0, 234) else none)) else (bif Nat.ble pc 4 then (bif Nat.beq pc 4 then some (.getfield 77, 7, 0, 4, 0, 142) else none) else (bif Nat.ble pc 7 then (bif Nat.beq pc 7 then some (.iload_n 1, 8, 0, 0, 0, 0) else none) else (bif Nat.beq pc 8 then some (.invokevirtual 81, 11, 2, 12, 2, 310) else none)))) else (bif Nat.ble pc 14 then (bif Nat.ble pc 11 then (bif Nat.beq pc 11 then some (.ifCond .eq 17, 14, 28, 0, 0, 0) else none) else (bif Nat.beq pc 14 then some (.aload_n 0, 15, 0, 0, 0, 0) else none)) else (bif Nat.ble pc 15 then (bif Nat.beq pc 15 then some (.getfield 10, 18, 0, 6, 0, 234) else none) else (bif Nat.ble pc 18 then (bif Nat.beq pc 18 then some (.getfield 44, 21, 0, 4, 1, 144) else none) else (bif Nat.beq pc 21 then some (.iload_n 2, 22, 0, 0, 0, 0) else none))))) else (bif Nat.ble pc 30 then (bif Nat.ble pc 25 then (bif Nat.ble pc 22 then (bif Nat.beq pc 22 then some (.invokevirtual 66, 25, 5, 45, 2, 298) else none) else (bif Nat.beq pc 25 then some (.ifCond .ne 5, 28, 30, 0, 0, 0) else none)) else (bif Nat.ble pc 28 then (bif Nat.beq pc 28 then some (.iconst (-1), 29, 0, 0, 0, 0) else none) else (bif Nat.ble pc 29 then (bif Nat.beq pc 29 then some (.ireturn, 30, 0, 0, 0, 0) else none) else (bif Nat.beq pc 30 then some (.iload_n 3, 31, 0, 0, 0, 0) else none)))) else (bif Nat.ble pc 37 then (bif Nat.ble pc 31 then (bif Nat.beq pc 31 then some (.invokestatic 145, 34, 0, 79, 1, 437) else none) else (bif Nat.ble pc 34 then (bif Nat.beq pc 34 then some (.ifCond .eq 13, 37, 47, 0, 0, 0) else none) else (bif Nat.beq pc 37 then some (.iload 4, 39, 0, 0, 0, 0) else none))) else (bif Nat.ble pc 39 then (bif Nat.beq pc 39 then some (.iconst 0, 40, 0, 0, 0, 0) else none) else (bif Nat.ble pc 40 then (bif Nat.beq pc 40 then some (.iconst 4, 41, 0, 0, 0, 0) else none) else (bif Nat.beq pc 41 then some (.invokestatic 40, 44, 0, 77, 3, 257) else none)))))) else (bif Nat.ble pc 62 then (bif Nat.ble pc 51 then (bif Nat.ble pc 47 then (bif Nat.ble pc 44 then (bif Nat.beq pc 44 then some (.ifCond .ne 6, 47, 50, 0, 0, 0) else none) else (bif Nat.beq pc 47 then some (.bipush (-2), 49, 0, 0, 0, 0) else none)) else (bif Nat.ble pc 49 then (bif Nat.beq pc 49 then some (.ireturn, 50, 0, 0, 0, 0) else none) else (bif Nat.ble pc 50 then (bif Nat.beq pc 50 then some (.aload_n 0, 51, 0, 0, 0, 0) else none) else (bif Nat.beq pc 51 then some (.getfield 10, 54, 0, 6, 0, 234) else none)))) else (bif Nat.ble pc 56 then (bif Nat.ble pc 54 then (bif Nat.beq pc 54 then some (.iload_n 1, 55, 0, 0, 0, 0) else none) else (bif Nat.ble pc 55 then (bif Nat.beq pc 55 then some (.iload_n 2, 56, 0, 0, 0, 0) else none) else (bif Nat.beq pc 56 then some (.iload_n 3, 57, 0, 0, 0, 0) else none))) else (bif Nat.ble pc 57 then (bif Nat.beq pc 57 then some (.invokevirtual 148, 60, 4, 38, 4, 440) else none) else (bif Nat.ble pc 60 then (bif Nat.beq pc 60 then some (.istore 5, 62, 0, 0, 0, 0) else none) else (bif Nat.beq pc 62 then some (.iload 5, 64, 0, 0, 0, 0) else none))))) else (bif Nat.ble pc 72 then (bif Nat.ble pc 67 then (bif Nat.ble pc 64 then (bif Nat.beq pc 64 then some (.ifCond .eq 9, 67, 73, 0, 0, 0) else none) else (bif Nat.beq pc 67 then some (.bipush (-10), 69, 0, 0, 0, 0) else none)) else (bif Nat.ble pc 69 then (bif Nat.beq pc 69 then some (.iload 5, 71, 0, 0, 0, 0) else none) else (bif Nat.ble pc 71 then (bif Nat.beq pc 71 then some (.isub, 72, 0, 0, 0, 0) else none) else (bif Nat.beq pc 72 then some (.ireturn, 73, 0, 0, 0, 0) else none)))) else (bif Nat.ble pc 100 then (bif Nat.ble pc 73 then (bif Nat.beq pc 73 then some (.iload 4, 75, 0, 0, 0, 0) else none) else (bif Nat.ble pc 75 then (bif Nat.beq pc 75 then some (.tableswitch 63 0 2 #[25, 30, 40], 100, 138, 4, 0, 0) else none) else (bif Nat.beq pc 100 then some (.iload_n 3, 101, 0, 0, 0, 0) else none))) else (bif Nat.ble pc 101 then (bif Nat.beq pc 101 then some (.invokestatic 155, 104, 0, 80, 1, 477) else none) else (bif Nat.ble pc 104 then (bif Nat.beq pc 104 then some (.ireturn, 105, 0, 0, 0, 0) else none) else (bif Nat.beq pc 105 then some (.aload_n 0, 106, 0, 0, 0, 0) else none))))))) else (bif Nat.ble pc 143 then (bif Nat.ble pc 126 then (bif Nat.ble pc 114 then (bif Nat.ble pc 109 then (bif Nat.ble pc 106 then (bif Nat.beq pc 106 then some (.getfield 10, 109, 0, 6, 0, 234) else none) else (bif Nat.beq pc 109 then some (.iload_n 1, 110, 0, 0, 0, 0) else none)) else (bif Nat.ble pc 110 then (bif Nat.beq pc 110 then some (.iload_n 3, 111, 0, 0, 0, 0) else none) else (bif Nat.ble pc 111 then (bif Nat.beq pc 111 then some (.invokevirtual 213, 114, 4, 37, 3, 570) else none) else (bif Nat.beq pc 114 then some (.ireturn, 115, 0, 0, 0, 0) else none)))) else (bif Nat.ble pc 119 then (bif Nat.ble pc 115 then (bif Nat.beq pc 115 then some (.aload_n 0, 116, 0, 0, 0, 0) else none) else (bif Nat.ble pc 116 then (bif Nat.beq pc 116 then some (.getfield 10, 119, 0, 6, 0, 234) else none) else (bif Nat.beq pc 119 then some (.getfield 44, 122, 0, 4, 1, 144) else none))) else (bif Nat.ble pc 122 then (bif Nat.beq pc 122 then some (.getfield 70, 125, 0, 5, 0, 92) else none) else (bif Nat.ble pc 125 then (bif Nat.beq pc 125 then some (.iload_n 2, 126, 0, 0, 0, 0) else none) else (bif Nat.beq pc 126 then some (.iaload, 127, 0, 0, 0, 0) else none))))) else (bif Nat.ble pc 133 then (bif Nat.ble pc 128 then (bif Nat.ble pc 127 then (bif Nat.beq pc 127 then some (.aload_n 0, 128, 0, 0, 0, 0) else none) else (bif Nat.beq pc 128 then some (.getfield 10, 131, 0, 6, 0, 234) else none)) else (bif Nat.ble pc 131 then (bif Nat.beq pc 131 then some (.iload_n 1, 132, 0, 0, 0, 0) else none) else (bif Nat.ble pc 132 then (bif Nat.beq pc 132 then some (.iload_n 3, 133, 0, 0, 0, 0) else none) else (bif Nat.beq pc 133 then some (.invokevirtual 213, 136, 4, 37, 3, 570) else none)))) else (bif Nat.ble pc 138 then (bif Nat.ble pc 136 then (bif Nat.beq pc 136 then some (.isub, 137, 0, 0, 0, 0) else none) else (bif Nat.ble pc 137 then (bif Nat.beq pc 137 then some (.ireturn, 138, 0, 0, 0, 0) else none) else (bif Nat.beq pc 138 then some (.aload_n 0, 139, 0, 0, 0, 0) else none))) else (bif Nat.ble pc 139 then (bif Nat.beq pc 139 then some (.getfield 16, 142, 0, 6, 1, 235) else none) else (bif Nat.ble pc 142 then (bif Nat.beq pc 142 then some (.aload_n 0, 143, 0, 0, 0, 0) else none) else (bif Nat.beq pc 143 then some (.getfield 10, 146, 0, 6, 0, 234) else none)))))) else (bif Nat.ble pc 165 then (bif Nat.ble pc 154 then (bif Nat.ble pc 149 then (bif Nat.ble pc 146 then (bif Nat.beq pc 146 then some (.invokevirtual 107, 149, 4, 34, 2, 373) else none) else (bif Nat.beq pc 149 then some (.aload_n 0, 150, 0, 0, 0, 0) else none)) else (bif Nat.ble pc 150 then (bif Nat.beq pc 150 then some (.getfield 16, 153, 0, 6, 1, 235) else none) else (bif Nat.ble pc 153 then (bif Nat.beq pc 153 then some (.iload_n 1, 154, 0, 0, 0, 0) else none) else (bif Nat.beq pc 154 then some (.iload_n 2, 155, 0, 0, 0, 0) else none)))) else (bif Nat.ble pc 159 then (bif Nat.ble pc 155 then (bif Nat.beq pc 155 then some (.iload_n 3, 156, 0, 0, 0, 0) else none) else (bif Nat.ble pc 156 then (bif Nat.beq pc 156 then some (.invokevirtual 151, 159, 4, 39, 4, 462) else none) else (bif Nat.beq pc 159 then some (.iload 4, 161, 0, 0, 0, 0) else none))) else (bif Nat.ble pc 161 then (bif Nat.beq pc 161 then some (.iconst 3, 162, 0, 0, 0, 0) else none) else (bif Nat.ble pc 162 then (bif Nat.beq pc 162 then some (.if_icmp .ne 21, 165, 183, 0, 0, 0) else none) else (bif Nat.beq pc 165 then some (.aload_n 0, 166, 0, 0, 0, 0) else none))))) else (bif Nat.ble pc 176 then (bif Nat.ble pc 169 then (bif Nat.ble pc 166 then (bif Nat.beq pc 166 then some (.getfield 16, 169, 0, 6, 1, 235) else none) else (bif Nat.beq pc 169 then some (.getfield 216, 172, 0, 4, 7, 156) else none)) else (bif Nat.ble pc 172 then (bif Nat.beq pc 172 then some (.aload_n 0, 173, 0, 0, 0, 0) else none) else (bif Nat.ble pc 173 then (bif Nat.beq pc 173 then some (.getfield 10, 176, 0, 6, 0, 234) else none) else (bif Nat.beq pc 176 then some (.getfield 216, 179, 0, 4, 7, 156) else none)))) else (bif Nat.ble pc 183 then (bif Nat.ble pc 179 then (bif Nat.beq pc 179 then some (.isub, 180, 0, 0, 0, 0) else none) else (bif Nat.ble pc 180 then (bif Nat.beq pc 180 then some (.goto 10, 183, 190, 0, 0, 0) else none) else (bif Nat.beq pc 183 then some (.aload_n 0, 184, 0, 0, 0, 0) else none))) else (bif Nat.ble pc 184 then (bif Nat.beq pc 184 then some (.getfield 16, 187, 0, 6, 1, 235) else none) else (bif Nat.ble pc 187 then (bif Nat.beq pc 187 then some (.invokevirtual 141, 190, 4, 43, 1, 427) else none) else (bif Nat.beq pc 190 then some (.ireturn, 191, 0, 0, 0, 0) else none))))))))
set_option maxRecDepth 100000 in
def fp_k73 (pc : Nat) : Option FpE := (bif Nat.ble pc 49 then (bif Nat.ble pc 23 then (bif Nat.ble pc 11 then (bif Nat.ble pc 4 then (bif Nat.ble pc 0 then (bif Nat.beq pc 0 then some (.aload_n 0, 1, 0, 0, 0, 0) else none) else (bif Nat.ble pc 1 then (bif Nat.beq pc 1 then some (.getfield 10, 4, 0, 6, 0, 234) else none) else (bif Nat.beq pc 4 then some (.getfield 77, 7, 0, 4, 0, 142) else none))) else (bif Nat.ble pc 7 then (bif Nat.beq pc 7 then some (.iload_n 1, 8, 0, 0, 0, 0) else none) else (bif Nat.ble pc 8 then (bif Nat.beq pc 8 then some (.invokevirtual 81, 11, 2, 12, 2, 310) else none) else (bif Nat.beq pc 11 then some (.ifCond .ne 5, 14, 16, 0, 0, 0) else none)))) else (bif Nat.ble pc 16 then (bif Nat.ble pc 14 then (bif Nat.beq pc 14 then some (.iconst (-1), 15, 0, 0, 0, 0) else none) else (bif Nat.ble pc 15 then (bif Nat.beq pc 15 then some (.ireturn, 16, 0, 0, 0, 0) else none) else (bif Nat.beq pc 16 then some (.iload_n 2, 17, 0, 0, 0, 0) else none))) else (bif Nat.ble pc 17 then (bif Nat.beq pc 17 then some (.invokestatic 145, 20, 0, 79, 1, 437) else none) else (bif Nat.ble pc 20 then (bif Nat.beq pc 20 then some (.ifCond .ne 6, 23, 26, 0, 0, 0) else none) else (bif Nat.beq pc 23 then some (.bipush (-2), 25, 0, 0, 0, 0) else none))))) else (bif Nat.ble pc 34 then (bif Nat.ble pc 28 then (bif Nat.ble pc 25 then (bif Nat.beq pc 25 then some (.ireturn, 26, 0, 0, 0, 0) else none) else (bif Nat.ble pc 26 then (bif Nat.beq pc 26 then some (.bipush (-5), 28, 0, 0, 0, 0) else none) else (bif Nat.beq pc 28 then some (.istore_n 3, 29, 0, 0, 0, 0) else none))) else (bif Nat.ble pc 29 then (bif Nat.beq pc 29 then some (.sipush 201, 32, 0, 0, 0, 0) else none) else (bif Nat.ble pc 32 then (bif Nat.beq pc 32 then some (.istore 4, 34, 0, 0, 0, 0) else none) else (bif Nat.beq pc 34 then some (.iconst 0, 35, 0, 0, 0, 0) else none)))) else (bif Nat.ble pc 39 then (bif Nat.ble pc 35 then (bif Nat.beq pc 35 then some (.istore 5, 37, 0, 0, 0, 0) else none) else (bif Nat.ble pc 37 then (bif Nat.beq pc 37 then some (.iload 5, 39, 0, 0, 0, 0) else none) else (bif Nat.beq pc 39 then some (.aload_n 0, 40, 0, 0, 0, 0) else none))) else (bif Nat.ble pc 43 then (bif Nat.ble pc 40 then (bif Nat.beq pc 40 then some (.getfield 10, 43, 0, 6, 0, 234) else none) else (bif Nat.beq pc 43 then some (.getfield 44, 46, 0, 4, 1, 144) else none)) else (bif Nat.ble pc 46 then (bif Nat.beq pc 46 then some (.getfield 219, 49, 0, 5, 2, 98) else none) else (bif Nat.beq pc 49 then some (.if_icmp .ge 52, 52, 101, 0, 0, 0) else none)))))) else (bif Nat.ble pc 75 then (bif Nat.ble pc 64 then (bif Nat.ble pc 56 then (bif Nat.ble pc 52 then (bif Nat.beq pc 52 then some (.aload_n 0, 53, 0, 0, 0, 0) else none) else (bif Nat.ble pc 53 then (bif Nat.beq pc 53 then some (.getfield 10, 56, 0, 6, 0, 234) else none) else (bif Nat.beq pc 56 then some (.getfield 44, 59, 0, 4, 1, 144) else none))) else (bif Nat.ble pc 59 then (bif Nat.beq pc 59 then some (.getfield 70, 62, 0, 5, 0, 92) else none) else (bif Nat.ble pc 62 then (bif Nat.beq pc 62 then some (.iload 5, 64, 0, 0, 0, 0) else none) else (bif Nat.beq pc 64 then some (.iaload, 65, 0, 0, 0, 0) else none)))) else (bif Nat.ble pc 69 then (bif Nat.ble pc 65 then (bif Nat.beq pc 65 then some (.istore 6, 67, 0, 0, 0, 0) else none) else (bif Nat.ble pc 67 then (bif Nat.beq pc 67 then some (.iload 6, 69, 0, 0, 0, 0) else none) else (bif Nat.beq pc 69 then some (.iload 4, 71, 0, 0, 0, 0) else none))) else (bif Nat.ble pc 71 then (bif Nat.beq pc 71 then some (.if_icmp .ge 24, 74, 95, 0, 0, 0) else none) else (bif Nat.ble pc 74 then (bif Nat.beq pc 74 then some (.aload_n 0, 75, 0, 0, 0, 0) else none) else (bif Nat.beq pc 75 then some (.getfield 10, 78, 0, 6, 0, 234) else none))))) else (bif Nat.ble pc 88 then (bif Nat.ble pc 81 then (bif Nat.ble pc 78 then (bif Nat.beq pc 78 then some (.iload_n 1, 79, 0, 0, 0, 0) else none) else (bif Nat.ble pc 79 then (bif Nat.beq pc 79 then some (.iload 5, 81, 0, 0, 0, 0) else none) else (bif Nat.beq pc 81 then some (.iload_n 2, 82, 0, 0, 0, 0) else none))) else (bif Nat.ble pc 82 then (bif Nat.beq pc 82 then some (.invokevirtual 148, 85, 4, 38, 4, 440) else none) else (bif Nat.ble pc 85 then (bif Nat.beq pc 85 then some (.ifCond .ne 10, 88, 95, 0, 0, 0) else none) else (bif Nat.beq pc 88 then some (.iload 5, 90, 0, 0, 0, 0) else none)))) else (bif Nat.ble pc 93 then (bif Nat.ble pc 90 then (bif Nat.beq pc 90 then some (.istore_n 3, 91, 0, 0, 0, 0) else none) else (bif Nat.ble pc 91 then (bif Nat.beq pc 91 then some (.iload 6, 93, 0, 0, 0, 0) else none) else (bif Nat.beq pc 93 then some (.istore 4, 95, 0, 0, 0, 0) else none))) else (bif Nat.ble pc 98 then (bif Nat.ble pc 95 then (bif Nat.beq pc 95 then some (.iinc 5 1, 98, 0, 0, 0, 0) else none) else (bif Nat.beq pc 98 then some (.goto (-61), 101, 37, 0, 0, 0) else none)) else (bif Nat.ble pc 101 then (bif Nat.beq pc 101 then some (.iload_n 3, 102, 0, 0, 0, 0) else none) else (bif Nat.beq pc 102 then some (.ireturn, 103, 0, 0, 0, 0) else none)))))))
set_option maxRecDepth 100000 in
def fp_k74 (pc : Nat) : Option FpE := (bif Nat.ble pc 78 then (bif Nat.ble pc 40 then (bif Nat.ble pc 18 then (bif Nat.ble pc 7 then (bif Nat.ble pc 1 then (bif Nat.ble pc 0 then (bif Nat.beq pc 0 then some (.aload_n 0, 1, 0, 0, 0, 0) else none) else (bif Nat.beq pc 1 then some (.getfield 10, 4, 0, 6, 0, 234) else none)) else (bif Nat.ble pc 4 then (bif Nat.beq pc 4 then some (.getfield 77, 7, 0, 4, 0, 142) else none) else (bif Nat.beq pc 7 then some (.iload_n 1, 8, 0, 0, 0, 0) else none))) else (bif Nat.ble pc 11 then (bif Nat.ble pc 8 then (bif Nat.beq pc 8 then some (.invokevirtual 81, 11, 2, 12, 2, 310) else none) else (bif Nat.beq pc 11 then some (.ifCond .eq 17, 14, 28, 0, 0, 0) else none)) else (bif Nat.ble pc 14 then (bif Nat.beq pc 14 then some (.aload_n 0, 15, 0, 0, 0, 0) else none) else (bif Nat.ble pc 15 then (bif Nat.beq pc 15 then some (.getfield 10, 18, 0, 6, 0, 234) else none) else (bif Nat.beq pc 18 then some (.getfield 44, 21, 0, 4, 1, 144) else none))))) else (bif Nat.ble pc 29 then (bif Nat.ble pc 22 then (bif Nat.ble pc 21 then (bif Nat.beq pc 21 then some (.iload_n 2, 22, 0, 0, 0, 0) else none) else (bif Nat.beq pc 22 then some (.invokevirtual 66, 25, 5, 45, 2, 298) else none)) else (bif Nat.ble pc 25 then (bif Nat.beq pc 25 then some (.ifCond .ne 5, 28, 30, 0, 0, 0) else none) else (bif Nat.ble pc 28 then (bif Nat.beq pc 28 then some (.iconst (-1), 29, 0, 0, 0, 0) else none) else (bif Nat.beq pc 29 then some (.ireturn, 30, 0, 0, 0, 0) else none)))) else (bif Nat.ble pc 31 then (bif Nat.ble pc 30 then (bif Nat.beq pc 30 then some (.aload_n 0, 31, 0, 0, 0, 0) else none) else (bif Nat.beq pc 31 then some (.getfield 10, 34, 0, 6, 0, 234) else none)) else (bif Nat.ble pc 34 then (bif Nat.beq pc 34 then some (.getfield 77, 37, 0, 4, 0, 142) else none) else (bif Nat.ble pc 37 then (bif Nat.beq pc 37 then some (.getfield 158, 40, 0, 2, 1, 63) else none) else (bif Nat.beq pc 40 then some (.iload_n 1, 41, 0, 0, 0, 0) else none)))))) else (bif Nat.ble pc 57 then (bif Nat.ble pc 47 then (bif Nat.ble pc 42 then (bif Nat.ble pc 41 then (bif Nat.beq pc 41 then some (.iaload, 42, 0, 0, 0, 0) else none) else (bif Nat.beq pc 42 then some (.istore_n 3, 43, 0, 0, 0, 0) else none)) else (bif Nat.ble pc 43 then (bif Nat.beq pc 43 then some (.aload_n 0, 44, 0, 0, 0, 0) else none) else (bif Nat.ble pc 44 then (bif Nat.beq pc 44 then some (.getfield 10, 47, 0, 6, 0, 234) else none) else (bif Nat.beq pc 47 then some (.getfield 77, 50, 0, 4, 0, 142) else none)))) else (bif Nat.ble pc 53 then (bif Nat.ble pc 50 then (bif Nat.beq pc 50 then some (.getfield 161, 53, 0, 2, 2, 66) else none) else (bif Nat.beq pc 53 then some (.iload_n 1, 54, 0, 0, 0, 0) else none)) else (bif Nat.ble pc 54 then (bif Nat.beq pc 54 then some (.iaload, 55, 0, 0, 0, 0) else none) else (bif Nat.ble pc 55 then (bif Nat.beq pc 55 then some (.istore 4, 57, 0, 0, 0, 0) else none) else (bif Nat.beq pc 57 then some (.aload_n 0, 58, 0, 0, 0, 0) else none))))) else (bif Nat.ble pc 66 then (bif Nat.ble pc 61 then (bif Nat.ble pc 58 then (bif Nat.beq pc 58 then some (.getfield 10, 61, 0, 6, 0, 234) else none) else (bif Nat.beq pc 61 then some (.getfield 92, 64, 0, 4, 2, 146) else none)) else (bif Nat.ble pc 64 then (bif Nat.beq pc 64 then some (.iload_n 1, 65, 0, 0, 0, 0) else none) else (bif Nat.ble pc 65 then (bif Nat.beq pc 65 then some (.iconst 0, 66, 0, 0, 0, 0) else none) else (bif Nat.beq pc 66 then some (.invokevirtual 220, 69, 1, 10, 3, 579) else none)))) else (bif Nat.ble pc 71 then (bif Nat.ble pc 69 then (bif Nat.beq pc 69 then some (.istore 5, 71, 0, 0, 0, 0) else none) else (bif Nat.beq pc 71 then some (.aload_n 0, 72, 0, 0, 0, 0) else none)) else (bif Nat.ble pc 72 then (bif Nat.beq pc 72 then some (.getfield 10, 75, 0, 6, 0, 234) else none) else (bif Nat.ble pc 75 then (bif Nat.beq pc 75 then some (.getfield 92, 78, 0, 4, 2, 146) else none) else (bif Nat.beq pc 78 then some (.iload_n 1, 79, 0, 0, 0, 0) else none))))))) else (bif Nat.ble pc 114 then (bif Nat.ble pc 94 then (bif Nat.ble pc 85 then (bif Nat.ble pc 80 then (bif Nat.ble pc 79 then (bif Nat.beq pc 79 then some (.iconst 1, 80, 0, 0, 0, 0) else none) else (bif Nat.beq pc 80 then some (.invokevirtual 220, 83, 1, 10, 3, 579) else none)) else (bif Nat.ble pc 83 then (bif Nat.beq pc 83 then some (.istore 6, 85, 0, 0, 0, 0) else none) else (bif Nat.beq pc 85 then some (.iconst 0, 86, 0, 0, 0, 0) else none))) else (bif Nat.ble pc 88 then (bif Nat.ble pc 86 then (bif Nat.beq pc 86 then some (.istore 7, 88, 0, 0, 0, 0) else none) else (bif Nat.beq pc 88 then some (.iload 7, 90, 0, 0, 0, 0) else none)) else (bif Nat.ble pc 90 then (bif Nat.beq pc 90 then some (.iconst 3, 91, 0, 0, 0, 0) else none) else (bif Nat.ble pc 91 then (bif Nat.beq pc 91 then some (.if_icmp .gt 63, 94, 154, 0, 0, 0) else none) else (bif Nat.beq pc 94 then some (.iload_n 3, 95, 0, 0, 0, 0) else none))))) else (bif Nat.ble pc 103 then (bif Nat.ble pc 97 then (bif Nat.ble pc 95 then (bif Nat.beq pc 95 then some (.iload 7, 97, 0, 0, 0, 0) else none) else (bif Nat.beq pc 97 then some (.invokestatic 223, 100, 0, 81, 1, 583) else none)) else (bif Nat.ble pc 100 then (bif Nat.beq pc 100 then some (.iadd, 101, 0, 0, 0, 0) else none) else (bif Nat.ble pc 101 then (bif Nat.beq pc 101 then some (.iload 5, 103, 0, 0, 0, 0) else none) else (bif Nat.beq pc 103 then some (.if_icmp .lt 20, 106, 123, 0, 0, 0) else none)))) else (bif Nat.ble pc 108 then (bif Nat.ble pc 106 then (bif Nat.beq pc 106 then some (.iload 4, 108, 0, 0, 0, 0) else none) else (bif Nat.beq pc 108 then some (.iload 7, 110, 0, 0, 0, 0) else none)) else (bif Nat.ble pc 110 then (bif Nat.beq pc 110 then some (.invokestatic 226, 113, 0, 82, 1, 584) else none) else (bif Nat.ble pc 113 then (bif Nat.beq pc 113 then some (.iadd, 114, 0, 0, 0, 0) else none) else (bif Nat.beq pc 114 then some (.iload 6, 116, 0, 0, 0, 0) else none)))))) else (bif Nat.ble pc 135 then (bif Nat.ble pc 124 then (bif Nat.ble pc 119 then (bif Nat.ble pc 116 then (bif Nat.beq pc 116 then some (.if_icmp .lt 7, 119, 123, 0, 0, 0) else none) else (bif Nat.beq pc 119 then some (.iconst 1, 120, 0, 0, 0, 0) else none)) else (bif Nat.ble pc 120 then (bif Nat.beq pc 120 then some (.goto 4, 123, 124, 0, 0, 0) else none) else (bif Nat.ble pc 123 then (bif Nat.beq pc 123 then some (.iconst 0, 124, 0, 0, 0, 0) else none) else (bif Nat.beq pc 124 then some (.istore 8, 126, 0, 0, 0, 0) else none)))) else (bif Nat.ble pc 128 then (bif Nat.ble pc 126 then (bif Nat.beq pc 126 then some (.iload 8, 128, 0, 0, 0, 0) else none) else (bif Nat.beq pc 128 then some (.ifCond .eq 20, 131, 148, 0, 0, 0) else none)) else (bif Nat.ble pc 131 then (bif Nat.beq pc 131 then some (.aload_n 0, 132, 0, 0, 0, 0) else none) else (bif Nat.ble pc 132 then (bif Nat.beq pc 132 then some (.getfield 10, 135, 0, 6, 0, 234) else none) else (bif Nat.beq pc 135 then some (.iload_n 1, 136, 0, 0, 0, 0) else none))))) else (bif Nat.ble pc 145 then (bif Nat.ble pc 137 then (bif Nat.ble pc 136 then (bif Nat.beq pc 136 then some (.iload_n 2, 137, 0, 0, 0, 0) else none) else (bif Nat.beq pc 137 then some (.iload 7, 139, 0, 0, 0, 0) else none)) else (bif Nat.ble pc 139 then (bif Nat.beq pc 139 then some (.invokevirtual 148, 142, 4, 38, 4, 440) else none) else (bif Nat.ble pc 142 then (bif Nat.beq pc 142 then some (.ifCond .ne 6, 145, 148, 0, 0, 0) else none) else (bif Nat.beq pc 145 then some (.iload 7, 147, 0, 0, 0, 0) else none)))) else (bif Nat.ble pc 148 then (bif Nat.ble pc 147 then (bif Nat.beq pc 147 then some (.ireturn, 148, 0, 0, 0, 0) else none) else (bif Nat.beq pc 148 then some (.iinc 7 1, 151, 0, 0, 0, 0) else none)) else (bif Nat.ble pc 151 then (bif Nat.beq pc 151 then some (.goto (-63), 154, 88, 0, 0, 0) else none) else (bif Nat.ble pc 154 then (bif Nat.beq pc 154 then some (.bipush (-5), 156, 0, 0, 0, 0) else none) else (bif Nat.beq pc 156 then some (.ireturn, 157, 0, 0, 0, 0) else none))))))))
set_option maxRecDepth 100000 in
def fp_k75 (pc : Nat) : Option FpE := (bif Nat.ble pc 161 then (bif Nat.ble pc 117 then (bif Nat.ble pc 95 then (bif Nat.ble pc 84 then (bif Nat.ble pc 1 then (bif Nat.ble pc 0 then (bif Nat.beq pc 0 then some (.iload_n 1, 1, 0, 0, 0, 0) else none) else (bif Nat.beq pc 1 then some (.tableswitch 231 0 15 #[79, 87, 98, 109, 120, 131, 142, 153, 161, 169, 177, 187, 197, 207, 215, 223], 80, 232, 5, 0, 0) else none)) else (bif Nat.ble pc 80 then (bif Nat.beq pc 80 then some (.aload_n 0, 81, 0, 0, 0, 0) else none) else (bif Nat.ble pc 81 then (bif Nat.beq pc 81 then some (.getfield 10, 84, 0, 6, 0, 234) else none) else (bif Nat.beq pc 84 then some (.getfield 229, 87, 0, 4, 5, 152) else none)))) else (bif Nat.ble pc 88 then (bif Nat.ble pc 87 then (bif Nat.beq pc 87 then some (.ireturn, 88, 0, 0, 0, 0) else none) else (bif Nat.beq pc 88 then some (.aload_n 0, 89, 0, 0, 0, 0) else none)) else (bif Nat.ble pc 89 then (bif Nat.beq pc 89 then some (.getfield 10, 92, 0, 6, 0, 234) else none) else (bif Nat.ble pc 92 then (bif Nat.beq pc 92 then some (.getfield 77, 95, 0, 4, 0, 142) else none) else (bif Nat.beq pc 95 then some (.getfield 232, 98, 0, 2, 4, 72) else none))))) else (bif Nat.ble pc 106 then (bif Nat.ble pc 99 then (bif Nat.ble pc 98 then (bif Nat.beq pc 98 then some (.ireturn, 99, 0, 0, 0, 0) else none) else (bif Nat.beq pc 99 then some (.aload_n 0, 100, 0, 0, 0, 0) else none)) else (bif Nat.ble pc 100 then (bif Nat.beq pc 100 then some (.getfield 10, 103, 0, 6, 0, 234) else none) else (bif Nat.ble pc 103 then (bif Nat.beq pc 103 then some (.getfield 44, 106, 0, 4, 1, 144) else none) else (bif Nat.beq pc 106 then some (.getfield 219, 109, 0, 5, 2, 98) else none)))) else (bif Nat.ble pc 110 then (bif Nat.ble pc 109 then (bif Nat.beq pc 109 then some (.ireturn, 110, 0, 0, 0, 0) else none) else (bif Nat.beq pc 110 then some (.aload_n 0, 111, 0, 0, 0, 0) else none)) else (bif Nat.ble pc 111 then (bif Nat.beq pc 111 then some (.getfield 10, 114, 0, 6, 0, 234) else none) else (bif Nat.ble pc 114 then (bif Nat.beq pc 114 then some (.getfield 92, 117, 0, 4, 2, 146) else none) else (bif Nat.beq pc 117 then some (.getfield 129, 120, 0, 1, 3, 121) else none)))))) else (bif Nat.ble pc 139 then (bif Nat.ble pc 128 then (bif Nat.ble pc 121 then (bif Nat.ble pc 120 then (bif Nat.beq pc 120 then some (.ireturn, 121, 0, 0, 0, 0) else none) else (bif Nat.beq pc 121 then some (.aload_n 0, 122, 0, 0, 0, 0) else none)) else (bif Nat.ble pc 122 then (bif Nat.beq pc 122 then some (.getfield 10, 125, 0, 6, 0, 234) else none) else (bif Nat.ble pc 125 then (bif Nat.beq pc 125 then some (.getfield 44, 128, 0, 4, 1, 144) else none) else (bif Nat.beq pc 128 then some (.invokevirtual 233, 131, 5, 50, 1, 589) else none)))) else (bif Nat.ble pc 132 then (bif Nat.ble pc 131 then (bif Nat.beq pc 131 then some (.ireturn, 132, 0, 0, 0, 0) else none) else (bif Nat.beq pc 132 then some (.aload_n 0, 133, 0, 0, 0, 0) else none)) else (bif Nat.ble pc 133 then (bif Nat.beq pc 133 then some (.getfield 10, 136, 0, 6, 0, 234) else none) else (bif Nat.ble pc 136 then (bif Nat.beq pc 136 then some (.getfield 77, 139, 0, 4, 0, 142) else none) else (bif Nat.beq pc 139 then some (.invokevirtual 236, 142, 2, 25, 1, 593) else none))))) else (bif Nat.ble pc 150 then (bif Nat.ble pc 143 then (bif Nat.ble pc 142 then (bif Nat.beq pc 142 then some (.ireturn, 143, 0, 0, 0, 0) else none) else (bif Nat.beq pc 143 then some (.aload_n 0, 144, 0, 0, 0, 0) else none)) else (bif Nat.ble pc 144 then (bif Nat.beq pc 144 then some (.getfield 10, 147, 0, 6, 0, 234) else none) else (bif Nat.ble pc 147 then (bif Nat.beq pc 147 then some (.getfield 77, 150, 0, 4, 0, 142) else none) else (bif Nat.beq pc 150 then some (.invokevirtual 239, 153, 2, 26, 1, 597) else none)))) else (bif Nat.ble pc 154 then (bif Nat.ble pc 153 then (bif Nat.beq pc 153 then some (.ireturn, 154, 0, 0, 0, 0) else none) else (bif Nat.beq pc 154 then some (.aload_n 0, 155, 0, 0, 0, 0) else none)) else (bif Nat.ble pc 155 then (bif Nat.beq pc 155 then some (.getfield 10, 158, 0, 6, 0, 234) else none) else (bif Nat.ble pc 158 then (bif Nat.beq pc 158 then some (.getfield 242, 161, 0, 4, 6, 154) else none) else (bif Nat.beq pc 161 then some (.ireturn, 162, 0, 0, 0, 0) else none))))))) else (bif Nat.ble pc 197 then (bif Nat.ble pc 179 then (bif Nat.ble pc 170 then (bif Nat.ble pc 163 then (bif Nat.ble pc 162 then (bif Nat.beq pc 162 then some (.aload_n 0, 163, 0, 0, 0, 0) else none) else (bif Nat.beq pc 163 then some (.getfield 10, 166, 0, 6, 0, 234) else none)) else (bif Nat.ble pc 166 then (bif Nat.beq pc 166 then some (.getfield 216, 169, 0, 4, 7, 156) else none) else (bif Nat.ble pc 169 then (bif Nat.beq pc 169 then some (.ireturn, 170, 0, 0, 0, 0) else none) else (bif Nat.beq pc 170 then some (.aload_n 0, 171, 0, 0, 0, 0) else none)))) else (bif Nat.ble pc 174 then (bif Nat.ble pc 171 then (bif Nat.beq pc 171 then some (.getfield 10, 174, 0, 6, 0, 234) else none) else (bif Nat.beq pc 174 then some (.getfield 54, 177, 0, 4, 4, 150) else none)) else (bif Nat.ble pc 177 then (bif Nat.beq pc 177 then some (.ireturn, 178, 0, 0, 0, 0) else none) else (bif Nat.ble pc 178 then (bif Nat.beq pc 178 then some (.aload_n 0, 179, 0, 0, 0, 0) else none) else (bif Nat.beq pc 179 then some (.getfield 10, 182, 0, 6, 0, 234) else none))))) else (bif Nat.ble pc 188 then (bif Nat.ble pc 185 then (bif Nat.ble pc 182 then (bif Nat.beq pc 182 then some (.getfield 174, 185, 0, 4, 3, 148) else none) else (bif Nat.beq pc 185 then some (.iconst 0, 186, 0, 0, 0, 0) else none)) else (bif Nat.ble pc 186 then (bif Nat.beq pc 186 then some (.iaload, 187, 0, 0, 0, 0) else none) else (bif Nat.ble pc 187 then (bif Nat.beq pc 187 then some (.ireturn, 188, 0, 0, 0, 0) else none) else (bif Nat.beq pc 188 then some (.aload_n 0, 189, 0, 0, 0, 0) else none)))) else (bif Nat.ble pc 192 then (bif Nat.ble pc 189 then (bif Nat.beq pc 189 then some (.getfield 10, 192, 0, 6, 0, 234) else none) else (bif Nat.beq pc 192 then some (.getfield 174, 195, 0, 4, 3, 148) else none)) else (bif Nat.ble pc 195 then (bif Nat.beq pc 195 then some (.iconst 1, 196, 0, 0, 0, 0) else none) else (bif Nat.ble pc 196 then (bif Nat.beq pc 196 then some (.iaload, 197, 0, 0, 0, 0) else none) else (bif Nat.beq pc 197 then some (.ireturn, 198, 0, 0, 0, 0) else none)))))) else (bif Nat.ble pc 215 then (bif Nat.ble pc 206 then (bif Nat.ble pc 199 then (bif Nat.ble pc 198 then (bif Nat.beq pc 198 then some (.aload_n 0, 199, 0, 0, 0, 0) else none) else (bif Nat.beq pc 199 then some (.getfield 10, 202, 0, 6, 0, 234) else none)) else (bif Nat.ble pc 202 then (bif Nat.beq pc 202 then some (.getfield 174, 205, 0, 4, 3, 148) else none) else (bif Nat.ble pc 205 then (bif Nat.beq pc 205 then some (.iconst 2, 206, 0, 0, 0, 0) else none) else (bif Nat.beq pc 206 then some (.iaload, 207, 0, 0, 0, 0) else none)))) else (bif Nat.ble pc 208 then (bif Nat.ble pc 207 then (bif Nat.beq pc 207 then some (.ireturn, 208, 0, 0, 0, 0) else none) else (bif Nat.beq pc 208 then some (.aload_n 0, 209, 0, 0, 0, 0) else none)) else (bif Nat.ble pc 209 then (bif Nat.beq pc 209 then some (.getfield 10, 212, 0, 6, 0, 234) else none) else (bif Nat.ble pc 212 then (bif Nat.beq pc 212 then some (.getfield 245, 215, 0, 4, 8, 158) else none) else (bif Nat.beq pc 215 then some (.ireturn, 216, 0, 0, 0, 0) else none))))) else (bif Nat.ble pc 224 then (bif Nat.ble pc 217 then (bif Nat.ble pc 216 then (bif Nat.beq pc 216 then some (.aload_n 0, 217, 0, 0, 0, 0) else none) else (bif Nat.beq pc 217 then some (.getfield 29, 220, 0, 6, 4, 238) else none)) else (bif Nat.ble pc 220 then (bif Nat.beq pc 220 then some (.getfield 184, 223, 0, 0, 2, 190) else none) else (bif Nat.ble pc 223 then (bif Nat.beq pc 223 then some (.ireturn, 224, 0, 0, 0, 0) else none) else (bif Nat.beq pc 224 then some (.aload_n 0, 225, 0, 0, 0, 0) else none)))) else (bif Nat.ble pc 228 then (bif Nat.ble pc 225 then (bif Nat.beq pc 225 then some (.getfield 36, 228, 0, 6, 5, 239) else none) else (bif Nat.beq pc 228 then some (.getfield 177, 231, 0, 3, 1, 207) else none)) else (bif Nat.ble pc 231 then (bif Nat.beq pc 231 then some (.ireturn, 232, 0, 0, 0, 0) else none) else (bif Nat.ble pc 232 then (bif Nat.beq pc 232 then some (.bipush (-2), 234, 0, 0, 0, 0) else none) else (bif Nat.beq pc 234 then some (.ireturn, 235, 0, 0, 0, 0) else none))))))))
set_option maxRecDepth 100000 in
def fp_k76 (pc : Nat) : Option FpE := (bif Nat.ble pc 8 then (bif Nat.ble pc 1 then (bif Nat.ble pc 0 then (bif Nat.beq pc 0 then some (.aload_n 0, 1, 0, 0, 0, 0) else none) else (bif Nat.beq pc 1 then some (.getfield 29, 4, 0, 6, 4, 238) else none)) else (bif Nat.ble pc 4 then (bif Nat.beq pc 4 then some (.aload_n 0, 5, 0, 0, 0, 0) else none) else (bif Nat.ble pc 5 then (bif Nat.beq pc 5 then some (.getfield 10, 8, 0, 6, 0, 234) else none) else (bif Nat.beq pc 8 then some (.invokevirtual 58, 11, 0, 1, 2, 264) else none)))) else (bif Nat.ble pc 15 then (bif Nat.ble pc 11 then (bif Nat.beq pc 11 then some (.aload_n 0, 12, 0, 0, 0, 0) else none) else (bif Nat.ble pc 12 then (bif Nat.beq pc 12 then some (.getfield 10, 15, 0, 6, 0, 234) else none) else (bif Nat.beq pc 15 then some (.aload_n 0, 16, 0, 0, 0, 0) else none))) else (bif Nat.ble pc 16 then (bif Nat.beq pc 16 then some (.getfield 16, 19, 0, 6, 1, 235) else none) else (bif Nat.ble pc 19 then (bif Nat.beq pc 19 then some (.invokevirtual 107, 22, 4, 34, 2, 373) else none) else (bif Nat.beq pc 22 then some (.return_, 23, 0, 0, 0, 0) else none)))))
set_option maxRecDepth 100000 in
def fp_k77 (pc : Nat) : Option FpE := (bif Nat.ble pc 6 then (bif Nat.ble pc 1 then (bif Nat.ble pc 0 then (bif Nat.beq pc 0 then some (.iload_n 0, 1, 0, 0, 0, 0) else none) else (bif Nat.beq pc 1 then some (.iload_n 1, 2, 0, 0, 0, 0) else none)) else (bif Nat.ble pc 2 then (bif Nat.beq pc 2 then some (.if_icmp .lt 12, 5, 14, 0, 0, 0) else none) else (bif Nat.ble pc 5 then (bif Nat.beq pc 5 then some (.iload_n 0, 6, 0, 0, 0, 0) else none) else (bif Nat.beq pc 6 then some (.iload_n 2, 7, 0, 0, 0, 0) else none)))) else (bif Nat.ble pc 10 then (bif Nat.ble pc 7 then (bif Nat.beq pc 7 then some (.if_icmp .gt 7, 10, 14, 0, 0, 0) else none) else (bif Nat.beq pc 10 then some (.iconst 1, 11, 0, 0, 0, 0) else none)) else (bif Nat.ble pc 11 then (bif Nat.beq pc 11 then some (.goto 4, 14, 15, 0, 0, 0) else none) else (bif Nat.ble pc 14 then (bif Nat.beq pc 14 then some (.iconst 0, 15, 0, 0, 0, 0) else none) else (bif Nat.beq pc 15 then some (.ireturn, 16, 0, 0, 1, 0) else none)))))
set_option maxRecDepth 100000 in
def fp_k78 (pc : Nat) : Option FpE := (bif Nat.ble pc 1 then (bif Nat.ble pc 0 then (bif Nat.beq pc 0 then some (.iload_n 0, 1, 0, 0, 0, 0) else none) else (bif Nat.beq pc 1 then some (.iconst 0, 2, 0, 0, 0, 0) else none)) else (bif Nat.ble pc 2 then (bif Nat.beq pc 2 then some (.bipush 7, 4, 0, 0, 0, 0) else none) else (bif Nat.ble pc 4 then (bif Nat.beq pc 4 then some (.invokestatic 40, 7, 0, 77, 3, 257) else none) else (bif Nat.beq pc 7 then some (.ireturn, 8, 0, 0, 1, 0) else none))))
set_option maxRecDepth 100000 in
def fp_k79 (pc : Nat) : Option FpE := (bif Nat.ble pc 1 then (bif Nat.ble pc 0 then (bif Nat.beq pc 0 then some (.iload_n 0, 1, 0, 0, 0, 0) else none) else (bif Nat.beq pc 1 then some (.iconst 0, 2, 0, 0, 0, 0) else none)) else (bif Nat.ble pc 2 then (bif Nat.beq pc 2 then some (.iconst 3, 3, 0, 0, 0, 0) else none) else (bif Nat.ble pc 3 then (bif Nat.beq pc 3 then some (.invokestatic 40, 6, 0, 77, 3, 257) else none) else (bif Nat.beq pc 6 then some (.ireturn, 7, 0, 0, 1, 0) else none))))
set_option maxRecDepth 100000 in
def fp_k80 (pc : Nat) : Option FpE := (bif Nat.ble pc 1 then (bif Nat.ble pc 0 then (bif Nat.beq pc 0 then some (.iconst 1, 1, 0, 0, 0, 0) else none) else (bif Nat.beq pc 1 then some (.iload_n 0, 2, 0, 0, 0, 0) else none)) else (bif Nat.ble pc 2 then (bif Nat.beq pc 2 then some (.ishl, 3, 0, 0, 0, 0) else none) else (bif Nat.beq pc 3 then some (.ireturn, 4, 0, 0, 0, 0) else none)))
set_option maxRecDepth 100000 in
def fp_k81 (pc : Nat) : Option FpE := (bif Nat.ble pc 4 then (bif Nat.ble pc 0 then (bif Nat.beq pc 0 then some (.iload_n 0, 1, 0, 0, 0, 0) else none) else (bif Nat.ble pc 1 then (bif Nat.beq pc 1 then some (.invokestatic 155, 4, 0, 80, 1, 477) else none) else (bif Nat.beq pc 4 then some (.iconst 1, 5, 0, 0, 0, 0) else none))) else (bif Nat.ble pc 6 then (bif Nat.ble pc 5 then (bif Nat.beq pc 5 then some (.iadd, 6, 0, 0, 0, 0) else none) else (bif Nat.beq pc 6 then some (.iconst 2, 7, 0, 0, 0, 0) else none)) else (bif Nat.ble pc 7 then (bif Nat.beq pc 7 then some (.idiv, 8, 0, 0, 0, 0) else none) else (bif Nat.beq pc 8 then some (.ireturn, 9, 0, 0, 0, 0) else none))))
set_option maxRecDepth 100000 in
def fp_k82 (pc : Nat) : Option FpE := (bif Nat.ble pc 1 then (bif Nat.ble pc 0 then (bif Nat.beq pc 0 then some (.iload_n 0, 1, 0, 0, 0, 0) else none) else (bif Nat.beq pc 1 then some (.invokestatic 155, 4, 0, 80, 1, 477) else none)) else (bif Nat.ble pc 4 then (bif Nat.beq pc 4 then some (.iconst 2, 5, 0, 0, 0, 0) else none) else (bif Nat.ble pc 5 then (bif Nat.beq pc 5 then some (.idiv, 6, 0, 0, 0, 0) else none) else (bif Nat.beq pc 6 then some (.ireturn, 7, 0, 0, 0, 0) else none))))
set_option maxRecDepth 100000 in
def fp_k83 (pc : Nat) : Option FpE := (bif Nat.ble pc 6 then (bif Nat.ble pc 1 then (bif Nat.ble pc 0 then (bif Nat.beq pc 0 then some (.iload_n 0, 1, 0, 0, 0, 0) else none) else (bif Nat.beq pc 1 then some (.iload_n 1, 2, 0, 0, 0, 0) else none)) else (bif Nat.ble pc 2 then (bif Nat.beq pc 2 then some (.if_icmp .lt 12, 5, 14, 0, 0, 0) else none) else (bif Nat.ble pc 5 then (bif Nat.beq pc 5 then some (.iload_n 0, 6, 0, 0, 0, 0) else none) else (bif Nat.beq pc 6 then some (.iload_n 2, 7, 0, 0, 0, 0) else none)))) else (bif Nat.ble pc 10 then (bif Nat.ble pc 7 then (bif Nat.beq pc 7 then some (.if_icmp .gt 7, 10, 14, 0, 0, 0) else none) else (bif Nat.beq pc 10 then some (.iconst 1, 11, 0, 0, 0, 0) else none)) else (bif Nat.ble pc 11 then (bif Nat.beq pc 11 then some (.goto 4, 14, 15, 0, 0, 0) else none) else (bif Nat.ble pc 14 then (bif Nat.beq pc 14 then some (.iconst 0, 15, 0, 0, 0, 0) else none) else (bif Nat.beq pc 15 then some (.ireturn, 16, 0, 0, 1, 0) else none)))))
set_option maxRecDepth 100000 in
def fp_k84 (pc : Nat) : Option FpE := (bif Nat.ble pc 6 then (bif Nat.ble pc 1 then (bif Nat.ble pc 0 then (bif Nat.beq pc 0 then some (.iload_n 1, 1, 0, 0, 0, 0) else none) else (bif Nat.beq pc 1 then some (.iconst 0, 2, 0, 0, 0, 0) else none)) else (bif Nat.ble pc 2 then (bif Nat.beq pc 2 then some (.aload_n 0, 3, 0, 0, 0, 0) else none) else (bif Nat.ble pc 3 then (bif Nat.beq pc 3 then some (.getfield 7, 6, 0, 7, 0, 607) else none) else (bif Nat.beq pc 6 then some (.iconst 3, 7, 0, 0, 0, 0) else none)))) else (bif Nat.ble pc 8 then (bif Nat.ble pc 7 then (bif Nat.beq pc 7 then some (.iaload, 8, 0, 0, 0, 0) else none) else (bif Nat.beq pc 8 then some (.iconst 1, 9, 0, 0, 0, 0) else none)) else (bif Nat.ble pc 9 then (bif Nat.beq pc 9 then some (.isub, 10, 0, 0, 0, 0) else none) else (bif Nat.ble pc 10 then (bif Nat.beq pc 10 then some (.invokestatic 20, 13, 0, 83, 3, 633) else none) else (bif Nat.beq pc 13 then some (.ireturn, 14, 0, 0, 1, 0) else none)))))
set_option maxRecDepth 100000 in
def fp_k85 (pc : Nat) : Option FpE := (bif Nat.ble pc 6 then (bif Nat.ble pc 1 then (bif Nat.ble pc 0 then (bif Nat.beq pc 0 then some (.iload_n 1, 1, 0, 0, 0, 0) else none) else (bif Nat.beq pc 1 then some (.iconst 0, 2, 0, 0, 0, 0) else none)) else (bif Nat.ble pc 2 then (bif Nat.beq pc 2 then some (.aload_n 0, 3, 0, 0, 0, 0) else none) else (bif Nat.ble pc 3 then (bif Nat.beq pc 3 then some (.getfield 7, 6, 0, 7, 0, 607) else none) else (bif Nat.beq pc 6 then some (.bipush 114, 8, 0, 0, 0, 0) else none)))) else (bif Nat.ble pc 9 then (bif Nat.ble pc 8 then (bif Nat.beq pc 8 then some (.iaload, 9, 0, 0, 0, 0) else none) else (bif Nat.beq pc 9 then some (.iconst 1, 10, 0, 0, 0, 0) else none)) else (bif Nat.ble pc 10 then (bif Nat.beq pc 10 then some (.isub, 11, 0, 0, 0, 0) else none) else (bif Nat.ble pc 11 then (bif Nat.beq pc 11 then some (.invokestatic 20, 14, 0, 83, 3, 633) else none) else (bif Nat.beq pc 14 then some (.ireturn, 15, 0, 0, 1, 0) else none)))))
set_option maxRecDepth 100000 in
def fp_k86 (pc : Nat) : Option FpE := (bif Nat.ble pc 6 then (bif Nat.ble pc 1 then (bif Nat.ble pc 0 then (bif Nat.beq pc 0 then some (.iload_n 1, 1, 0, 0, 0, 0) else none) else (bif Nat.beq pc 1 then some (.iconst 0, 2, 0, 0, 0, 0) else none)) else (bif Nat.ble pc 2 then (bif Nat.beq pc 2 then some (.aload_n 0, 3, 0, 0, 0, 0) else none) else (bif Nat.ble pc 3 then (bif Nat.beq pc 3 then some (.getfield 7, 6, 0, 7, 0, 607) else none) else (bif Nat.beq pc 6 then some (.bipush 127, 8, 0, 0, 0, 0) else none)))) else (bif Nat.ble pc 9 then (bif Nat.ble pc 8 then (bif Nat.beq pc 8 then some (.iaload, 9, 0, 0, 0, 0) else none) else (bif Nat.beq pc 9 then some (.iconst 1, 10, 0, 0, 0, 0) else none)) else (bif Nat.ble pc 10 then (bif Nat.beq pc 10 then some (.isub, 11, 0, 0, 0, 0) else none) else (bif Nat.ble pc 11 then (bif Nat.beq pc 11 then some (.invokestatic 20, 14, 0, 83, 3, 633) else none) else (bif Nat.beq pc 14 then some (.ireturn, 15, 0, 0, 1, 0) else none)))))
set_option maxRecDepth 100000 in
def fp_k87 (pc : Nat) : Option FpE := (bif Nat.ble pc 19 then (bif Nat.ble pc 9 then (bif Nat.ble pc 2 then (bif Nat.ble pc 0 then (bif Nat.beq pc 0 then some (.iconst 0, 1, 0, 0, 0, 0) else none) else (bif Nat.ble pc 1 then (bif Nat.beq pc 1 then some (.istore_n 3, 2, 0, 0, 0, 0) else none) else (bif Nat.beq pc 2 then some (.iload_n 3, 3, 0, 0, 0, 0) else none))) else (bif Nat.ble pc 3 then (bif Nat.beq pc 3 then some (.sipush 170, 6, 0, 0, 0, 0) else none) else (bif Nat.ble pc 6 then (bif Nat.beq pc 6 then some (.if_icmp .ge 33, 9, 39, 0, 0, 0) else none) else (bif Nat.beq pc 9 then some (.aload_n 0, 10, 0, 0, 0, 0) else none)))) else (bif Nat.ble pc 16 then (bif Nat.ble pc 10 then (bif Nat.beq pc 10 then some (.getfield 7, 13, 0, 7, 0, 607) else none) else (bif Nat.ble pc 13 then (bif Nat.beq pc 13 then some (.sipush 170, 16, 0, 0, 0, 0) else none) else (bif Nat.beq pc 16 then some (.iload_n 2, 17, 0, 0, 0, 0) else none))) else (bif Nat.ble pc 17 then (bif Nat.beq pc 17 then some (.imul, 18, 0, 0, 0, 0) else none) else (bif Nat.ble pc 18 then (bif Nat.beq pc 18 then some (.iload_n 3, 19, 0, 0, 0, 0) else none) else (bif Nat.beq pc 19 then some (.iadd, 20, 0, 0, 0, 0) else none))))) else (bif Nat.ble pc 29 then (bif Nat.ble pc 24 then (bif Nat.ble pc 20 then (bif Nat.beq pc 20 then some (.aload_n 0, 21, 0, 0, 0, 0) else none) else (bif Nat.ble pc 21 then (bif Nat.beq pc 21 then some (.getfield 7, 24, 0, 7, 0, 607) else none) else (bif Nat.beq pc 24 then some (.sipush 170, 27, 0, 0, 0, 0) else none))) else (bif Nat.ble pc 27 then (bif Nat.beq pc 27 then some (.iload_n 1, 28, 0, 0, 0, 0) else none) else (bif Nat.ble pc 28 then (bif Nat.beq pc 28 then some (.imul, 29, 0, 0, 0, 0) else none) else (bif Nat.beq pc 29 then some (.iload_n 3, 30, 0, 0, 0, 0) else none)))) else (bif Nat.ble pc 32 then (bif Nat.ble pc 30 then (bif Nat.beq pc 30 then some (.iadd, 31, 0, 0, 0, 0) else none) else (bif Nat.ble pc 31 then (bif Nat.beq pc 31 then some (.iaload, 32, 0, 0, 0, 0) else none) else (bif Nat.beq pc 32 then some (.iastore, 33, 0, 0, 0, 0) else none))) else (bif Nat.ble pc 33 then (bif Nat.beq pc 33 then some (.iinc 3 1, 36, 0, 0, 0, 0) else none) else (bif Nat.ble pc 36 then (bif Nat.beq pc 36 then some (.goto (-34), 39, 2, 0, 0, 0) else none) else (bif Nat.beq pc 39 then some (.return_, 40, 0, 0, 0, 0) else none))))))
set_option maxRecDepth 100000 in
def fp_k88 (pc : Nat) : Option FpE := (bif Nat.ble pc 26 then (bif Nat.ble pc 11 then (bif Nat.ble pc 5 then (bif Nat.ble pc 1 then (bif Nat.ble pc 0 then (bif Nat.beq pc 0 then some (.aload_n 0, 1, 0, 0, 0, 0) else none) else (bif Nat.beq pc 1 then some (.getfield 24, 4, 0, 7, 1, 608) else none)) else (bif Nat.ble pc 4 then (bif Nat.beq pc 4 then some (.iconst 4, 5, 0, 0, 0, 0) else none) else (bif Nat.beq pc 5 then some (.if_icmp .ne 34, 8, 39, 0, 0, 0) else none))) else (bif Nat.ble pc 9 then (bif Nat.ble pc 8 then (bif Nat.beq pc 8 then some (.iconst 1, 9, 0, 0, 0, 0) else none) else (bif Nat.beq pc 9 then some (.istore_n 2, 10, 0, 0, 0, 0) else none)) else (bif Nat.ble pc 10 then (bif Nat.beq pc 10 then some (.iload_n 2, 11, 0, 0, 0, 0) else none) else (bif Nat.beq pc 11 then some (.iconst 4, 12, 0, 0, 0, 0) else none)))) else (bif Nat.ble pc 17 then (bif Nat.ble pc 15 then (bif Nat.ble pc 12 then (bif Nat.beq pc 12 then some (.if_icmp .ge 17, 15, 29, 0, 0, 0) else none) else (bif Nat.beq pc 15 then some (.aload_n 0, 16, 0, 0, 0, 0) else none)) else (bif Nat.ble pc 16 then (bif Nat.beq pc 16 then some (.iload_n 2, 17, 0, 0, 0, 0) else none) else (bif Nat.beq pc 17 then some (.iconst 1, 18, 0, 0, 0, 0) else none))) else (bif Nat.ble pc 19 then (bif Nat.ble pc 18 then (bif Nat.beq pc 18 then some (.iadd, 19, 0, 0, 0, 0) else none) else (bif Nat.beq pc 19 then some (.iload_n 2, 20, 0, 0, 0, 0) else none)) else (bif Nat.ble pc 20 then (bif Nat.beq pc 20 then some (.invokevirtual 28, 23, 7, 87, 3, 640) else none) else (bif Nat.ble pc 23 then (bif Nat.beq pc 23 then some (.iinc 2 1, 26, 0, 0, 0, 0) else none) else (bif Nat.beq pc 26 then some (.goto (-16), 29, 10, 0, 0, 0) else none)))))) else (bif Nat.ble pc 41 then (bif Nat.ble pc 34 then (bif Nat.ble pc 30 then (bif Nat.ble pc 29 then (bif Nat.beq pc 29 then some (.aload_n 0, 30, 0, 0, 0, 0) else none) else (bif Nat.beq pc 30 then some (.dup, 31, 0, 0, 0, 0) else none)) else (bif Nat.ble pc 31 then (bif Nat.beq pc 31 then some (.getfield 24, 34, 0, 7, 1, 608) else none) else (bif Nat.beq pc 34 then some (.iconst 1, 35, 0, 0, 0, 0) else none))) else (bif Nat.ble pc 36 then (bif Nat.ble pc 35 then (bif Nat.beq pc 35 then some (.isub, 36, 0, 0, 0, 0) else none) else (bif Nat.beq pc 36 then some (.putfield 24, 39, 0, 7, 1, 608) else none)) else (bif Nat.ble pc 39 then (bif Nat.beq pc 39 then some (.aload_n 0, 40, 0, 0, 0, 0) else none) else (bif Nat.ble pc 40 then (bif Nat.beq pc 40 then some (.dup, 41, 0, 0, 0, 0) else none) else (bif Nat.beq pc 41 then some (.getfield 24, 44, 0, 7, 1, 608) else none))))) else (bif Nat.ble pc 49 then (bif Nat.ble pc 45 then (bif Nat.ble pc 44 then (bif Nat.beq pc 44 then some (.iconst 1, 45, 0, 0, 0, 0) else none) else (bif Nat.beq pc 45 then some (.iadd, 46, 0, 0, 0, 0) else none)) else (bif Nat.ble pc 46 then (bif Nat.beq pc 46 then some (.putfield 24, 49, 0, 7, 1, 608) else none) else (bif Nat.beq pc 49 then some (.aload_n 0, 50, 0, 0, 0, 0) else none))) else (bif Nat.ble pc 51 then (bif Nat.ble pc 50 then (bif Nat.beq pc 50 then some (.iload_n 1, 51, 0, 0, 0, 0) else none) else (bif Nat.beq pc 51 then some (.aload_n 0, 52, 0, 0, 0, 0) else none)) else (bif Nat.ble pc 52 then (bif Nat.beq pc 52 then some (.getfield 24, 55, 0, 7, 1, 608) else none) else (bif Nat.ble pc 55 then (bif Nat.beq pc 55 then some (.invokevirtual 28, 58, 7, 87, 3, 640) else none) else (bif Nat.beq pc 58 then some (.return_, 59, 0, 0, 0, 0) else none)))))))
set_option maxRecDepth 100000 in
def fp_k89 (pc : Nat) : Option FpE := (bif Nat.ble pc 5 then (bif Nat.ble pc 1 then (bif Nat.ble pc 0 then (bif Nat.beq pc 0 then some (.aload_n 0, 1, 0, 0, 0, 0) else none) else (bif Nat.beq pc 1 then some (.iconst 0, 2, 0, 0, 0, 0) else none)) else (bif Nat.ble pc 2 then (bif Nat.beq pc 2 then some (.invokevirtual 32, 5, 7, 88, 2, 636) else none) else (bif Nat.beq pc 5 then some (.aload_n 0, 6, 0, 0, 0, 0) else none))) else (bif Nat.ble pc 8 then (bif Nat.ble pc 6 then (bif Nat.beq pc 6 then some (.bipush 6, 8, 0, 0, 0, 0) else none) else (bif Nat.beq pc 8 then some (.iconst 0, 9, 0, 0, 0, 0) else none)) else (bif Nat.ble pc 9 then (bif Nat.beq pc 9 then some (.invokevirtual 28, 12, 7, 87, 3, 640) else none) else (bif Nat.beq pc 12 then some (.return_, 13, 0, 0, 0, 0) else none))))
set_option maxRecDepth 100000 in
def fp_k90 (pc : Nat) : Option FpE := (bif Nat.ble pc 3 then (bif Nat.ble pc 1 then (bif Nat.ble pc 0 then (bif Nat.beq pc 0 then some (.iload_n 0, 1, 0, 0, 0, 0) else none) else (bif Nat.beq pc 1 then some (.iconst 4, 2, 0, 0, 0, 0) else none)) else (bif Nat.ble pc 2 then (bif Nat.beq pc 2 then some (.iadd, 3, 0, 0, 0, 0) else none) else (bif Nat.beq pc 3 then some (.bipush 11, 5, 0, 0, 0, 0) else none))) else (bif Nat.ble pc 6 then (bif Nat.ble pc 5 then (bif Nat.beq pc 5 then some (.iload_n 1, 6, 0, 0, 0, 0) else none) else (bif Nat.beq pc 6 then some (.imul, 7, 0, 0, 0, 0) else none)) else (bif Nat.ble pc 7 then (bif Nat.beq pc 7 then some (.iadd, 8, 0, 0, 0, 0) else none) else (bif Nat.beq pc 8 then some (.ireturn, 9, 0, 0, 0, 0) else none))))
set_option maxRecDepth 100000 in
def fp_k91 (pc : Nat) : Option FpE := (bif Nat.ble pc 4 then (bif Nat.ble pc 1 then (bif Nat.ble pc 0 then (bif Nat.beq pc 0 then some (.iload_n 0, 1, 0, 0, 0, 0) else none) else (bif Nat.beq pc 1 then some (.bipush 115, 3, 0, 0, 0, 0) else none)) else (bif Nat.ble pc 3 then (bif Nat.beq pc 3 then some (.iadd, 4, 0, 0, 0, 0) else none) else (bif Nat.beq pc 4 then some (.iconst 2, 5, 0, 0, 0, 0) else none))) else (bif Nat.ble pc 6 then (bif Nat.ble pc 5 then (bif Nat.beq pc 5 then some (.iload_n 1, 6, 0, 0, 0, 0) else none) else (bif Nat.beq pc 6 then some (.imul, 7, 0, 0, 0, 0) else none)) else (bif Nat.ble pc 7 then (bif Nat.beq pc 7 then some (.iadd, 8, 0, 0, 0, 0) else none) else (bif Nat.beq pc 8 then some (.ireturn, 9, 0, 0, 0, 0) else none))))
set_option maxRecDepth 100000 in
def fp_k92 (pc : Nat) : Option FpE := (bif Nat.ble pc 5 then (bif Nat.ble pc 1 then (bif Nat.ble pc 0 then (bif Nat.beq pc 0 then some (.iload_n 0, 1, 0, 0, 0, 0) else none) else (bif Nat.beq pc 1 then some (.sipush 128, 4, 0, 0, 0, 0) else none)) else (bif Nat.ble pc 4 then (bif Nat.beq pc 4 then some (.iadd, 5, 0, 0, 0, 0) else none) else (bif Nat.beq pc 5 then some (.iconst 3, 6, 0, 0, 0, 0) else none))) else (bif Nat.ble pc 7 then (bif Nat.ble pc 6 then (bif Nat.beq pc 6 then some (.iload_n 1, 7, 0, 0, 0, 0) else none) else (bif Nat.beq pc 7 then some (.imul, 8, 0, 0, 0, 0) else none)) else (bif Nat.ble pc 8 then (bif Nat.beq pc 8 then some (.iadd, 9, 0, 0, 0, 0) else none) else (bif Nat.beq pc 9 then some (.ireturn, 10, 0, 0, 0, 0) else none))))
set_option maxRecDepth 100000 in
def fp_k93 (pc : Nat) : Option FpE := (bif Nat.ble pc 30 then (bif Nat.ble pc 13 then (bif Nat.ble pc 4 then (bif Nat.ble pc 1 then (bif Nat.ble pc 0 then (bif Nat.beq pc 0 then some (.iconst 1, 1, 0, 0, 0, 0) else none) else (bif Nat.beq pc 1 then some (.istore 4, 3, 0, 0, 0, 0) else none)) else (bif Nat.ble pc 3 then (bif Nat.beq pc 3 then some (.iconst 0, 4, 0, 0, 0, 0) else none) else (bif Nat.beq pc 4 then some (.istore 5, 6, 0, 0, 0, 0) else none))) else (bif Nat.ble pc 8 then (bif Nat.ble pc 6 then (bif Nat.beq pc 6 then some (.iload 5, 8, 0, 0, 0, 0) else none) else (bif Nat.beq pc 8 then some (.bipush 8, 10, 0, 0, 0, 0) else none)) else (bif Nat.ble pc 10 then (bif Nat.beq pc 10 then some (.if_icmp .ge 50, 13, 60, 0, 0, 0) else none) else (bif Nat.beq pc 13 then some (.iload 4, 15, 0, 0, 0, 0) else none)))) else (bif Nat.ble pc 22 then (bif Nat.ble pc 18 then (bif Nat.ble pc 15 then (bif Nat.beq pc 15 then some (.ifCond .eq 36, 18, 51, 0, 0, 0) else none) else (bif Nat.beq pc 18 then some (.aload_n 0, 19, 0, 0, 0, 0) else none)) else (bif Nat.ble pc 19 then (bif Nat.beq pc 19 then some (.getfield 7, 22, 0, 7, 0, 607) else none) else (bif Nat.beq pc 22 then some (.iload_n 1, 23, 0, 0, 0, 0) else none))) else (bif Nat.ble pc 24 then (bif Nat.ble pc 23 then (bif Nat.beq pc 23 then some (.iload_n 2, 24, 0, 0, 0, 0) else none) else (bif Nat.beq pc 24 then some (.invokestatic 36, 27, 0, 90, 2, 671) else none)) else (bif Nat.ble pc 27 then (bif Nat.beq pc 27 then some (.iload 5, 29, 0, 0, 0, 0) else none) else (bif Nat.ble pc 29 then (bif Nat.beq pc 29 then some (.iadd, 30, 0, 0, 0, 0) else none) else (bif Nat.beq pc 30 then some (.iaload, 31, 0, 0, 0, 0) else none)))))) else (bif Nat.ble pc 43 then (bif Nat.ble pc 36 then (bif Nat.ble pc 32 then (bif Nat.ble pc 31 then (bif Nat.beq pc 31 then some (.aload_n 0, 32, 0, 0, 0, 0) else none) else (bif Nat.beq pc 32 then some (.getfield 7, 35, 0, 7, 0, 607) else none)) else (bif Nat.ble pc 35 then (bif Nat.beq pc 35 then some (.iload_n 1, 36, 0, 0, 0, 0) else none) else (bif Nat.beq pc 36 then some (.iload_n 3, 37, 0, 0, 0, 0) else none))) else (bif Nat.ble pc 40 then (bif Nat.ble pc 37 then (bif Nat.beq pc 37 then some (.invokestatic 36, 40, 0, 90, 2, 671) else none) else (bif Nat.beq pc 40 then some (.iload 5, 42, 0, 0, 0, 0) else none)) else (bif Nat.ble pc 42 then (bif Nat.beq pc 42 then some (.iadd, 43, 0, 0, 0, 0) else none) else (bif Nat.beq pc 43 then some (.iaload, 44, 0, 0, 0, 0) else none)))) else (bif Nat.ble pc 51 then (bif Nat.ble pc 47 then (bif Nat.ble pc 44 then (bif Nat.beq pc 44 then some (.if_icmp .ne 7, 47, 51, 0, 0, 0) else none) else (bif Nat.beq pc 47 then some (.iconst 1, 48, 0, 0, 0, 0) else none)) else (bif Nat.ble pc 48 then (bif Nat.beq pc 48 then some (.goto 4, 51, 52, 0, 0, 0) else none) else (bif Nat.beq pc 51 then some (.iconst 0, 52, 0, 0, 0, 0) else none))) else (bif Nat.ble pc 54 then (bif Nat.ble pc 52 then (bif Nat.beq pc 52 then some (.istore 4, 54, 0, 0, 0, 0) else none) else (bif Nat.beq pc 54 then some (.iinc 5 1, 57, 0, 0, 0, 0) else none)) else (bif Nat.ble pc 57 then (bif Nat.beq pc 57 then some (.goto (-51), 60, 6, 0, 0, 0) else none) else (bif Nat.ble pc 60 then (bif Nat.beq pc 60 then some (.iload 4, 62, 0, 0, 0, 0) else none) else (bif Nat.beq pc 62 then some (.ireturn, 63, 0, 0, 1, 0) else none)))))))
set_option maxRecDepth 100000 in
def fp_k94 (pc : Nat) : Option FpE := (bif Nat.ble pc 12 then (bif Nat.ble pc 4 then (bif Nat.ble pc 1 then (bif Nat.ble pc 0 then (bif Nat.beq pc 0 then some (.iload_n 1, 1, 0, 0, 0, 0) else none) else (bif Nat.beq pc 1 then some (.istore_n 2, 2, 0, 0, 0, 0) else none)) else (bif Nat.ble pc 2 then (bif Nat.beq pc 2 then some (.iload_n 1, 3, 0, 0, 0, 0) else none) else (bif Nat.ble pc 3 then (bif Nat.beq pc 3 then some (.iconst 1, 4, 0, 0, 0, 0) else none) else (bif Nat.beq pc 4 then some (.isub, 5, 0, 0, 0, 0) else none)))) else (bif Nat.ble pc 7 then (bif Nat.ble pc 5 then (bif Nat.beq pc 5 then some (.istore_n 3, 6, 0, 0, 0, 0) else none) else (bif Nat.ble pc 6 then (bif Nat.beq pc 6 then some (.iload_n 3, 7, 0, 0, 0, 0) else none) else (bif Nat.beq pc 7 then some (.ifCond .lt 25, 10, 32, 0, 0, 0) else none))) else (bif Nat.ble pc 10 then (bif Nat.beq pc 10 then some (.aload_n 0, 11, 0, 0, 0, 0) else none) else (bif Nat.ble pc 11 then (bif Nat.beq pc 11 then some (.iconst 0, 12, 0, 0, 0, 0) else none) else (bif Nat.beq pc 12 then some (.iload_n 3, 13, 0, 0, 0, 0) else none))))) else (bif Nat.ble pc 21 then (bif Nat.ble pc 14 then (bif Nat.ble pc 13 then (bif Nat.beq pc 13 then some (.iload_n 1, 14, 0, 0, 0, 0) else none) else (bif Nat.beq pc 14 then some (.invokevirtual 40, 17, 7, 93, 4, 725) else none)) else (bif Nat.ble pc 17 then (bif Nat.beq pc 17 then some (.ifCond .eq 7, 20, 24, 0, 0, 0) else none) else (bif Nat.ble pc 20 then (bif Nat.beq pc 20 then some (.iload_n 3, 21, 0, 0, 0, 0) else none) else (bif Nat.beq pc 21 then some (.goto 4, 24, 25, 0, 0, 0) else none)))) else (bif Nat.ble pc 26 then (bif Nat.ble pc 24 then (bif Nat.beq pc 24 then some (.iload_n 2, 25, 0, 0, 0, 0) else none) else (bif Nat.ble pc 25 then (bif Nat.beq pc 25 then some (.istore_n 2, 26, 0, 0, 0, 0) else none) else (bif Nat.beq pc 26 then some (.iinc 3 (-1), 29, 0, 0, 0, 0) else none))) else (bif Nat.ble pc 29 then (bif Nat.beq pc 29 then some (.goto (-23), 32, 6, 0, 0, 0) else none) else (bif Nat.ble pc 32 then (bif Nat.beq pc 32 then some (.iload_n 2, 33, 0, 0, 0, 0) else none) else (bif Nat.beq pc 33 then some (.ireturn, 34, 0, 0, 0, 0) else none))))))
set_option maxRecDepth 100000 in
def fp_k95 (pc : Nat) : Option FpE := (bif Nat.ble pc 19 then (bif Nat.ble pc 5 then (bif Nat.ble pc 2 then (bif Nat.ble pc 0 then (bif Nat.beq pc 0 then some (.iconst 0, 1, 0, 0, 0, 0) else none) else (bif Nat.ble pc 1 then (bif Nat.beq pc 1 then some (.istore_n 2, 2, 0, 0, 0, 0) else none) else (bif Nat.beq pc 2 then some (.iconst 0, 3, 0, 0, 0, 0) else none))) else (bif Nat.ble pc 3 then (bif Nat.beq pc 3 then some (.istore_n 3, 4, 0, 0, 0, 0) else none) else (bif Nat.ble pc 4 then (bif Nat.beq pc 4 then some (.iload_n 3, 5, 0, 0, 0, 0) else none) else (bif Nat.beq pc 5 then some (.bipush 8, 7, 0, 0, 0, 0) else none)))) else (bif Nat.ble pc 11 then (bif Nat.ble pc 7 then (bif Nat.beq pc 7 then some (.if_icmp .ge 36, 10, 43, 0, 0, 0) else none) else (bif Nat.ble pc 10 then (bif Nat.beq pc 10 then some (.aload_n 0, 11, 0, 0, 0, 0) else none) else (bif Nat.beq pc 11 then some (.getfield 7, 14, 0, 7, 0, 607) else none))) else (bif Nat.ble pc 15 then (bif Nat.ble pc 14 then (bif Nat.beq pc 14 then some (.iconst 0, 15, 0, 0, 0, 0) else none) else (bif Nat.beq pc 15 then some (.iload_n 1, 16, 0, 0, 0, 0) else none)) else (bif Nat.ble pc 16 then (bif Nat.beq pc 16 then some (.invokestatic 36, 19, 0, 90, 2, 671) else none) else (bif Nat.beq pc 19 then some (.iload_n 3, 20, 0, 0, 0, 0) else none))))) else (bif Nat.ble pc 30 then (bif Nat.ble pc 22 then (bif Nat.ble pc 20 then (bif Nat.beq pc 20 then some (.iadd, 21, 0, 0, 0, 0) else none) else (bif Nat.ble pc 21 then (bif Nat.beq pc 21 then some (.iaload, 22, 0, 0, 0, 0) else none) else (bif Nat.beq pc 22 then some (.istore 4, 24, 0, 0, 0, 0) else none))) else (bif Nat.ble pc 26 then (bif Nat.ble pc 24 then (bif Nat.beq pc 24 then some (.iload 4, 26, 0, 0, 0, 0) else none) else (bif Nat.beq pc 26 then some (.iload_n 2, 27, 0, 0, 0, 0) else none)) else (bif Nat.ble pc 27 then (bif Nat.beq pc 27 then some (.if_icmp .le 8, 30, 35, 0, 0, 0) else none) else (bif Nat.beq pc 30 then some (.iload 4, 32, 0, 0, 0, 0) else none)))) else (bif Nat.ble pc 36 then (bif Nat.ble pc 32 then (bif Nat.beq pc 32 then some (.goto 4, 35, 36, 0, 0, 0) else none) else (bif Nat.ble pc 35 then (bif Nat.beq pc 35 then some (.iload_n 2, 36, 0, 0, 0, 0) else none) else (bif Nat.beq pc 36 then some (.istore_n 2, 37, 0, 0, 0, 0) else none))) else (bif Nat.ble pc 40 then (bif Nat.ble pc 37 then (bif Nat.beq pc 37 then some (.iinc 3 1, 40, 0, 0, 0, 0) else none) else (bif Nat.beq pc 40 then some (.goto (-36), 43, 4, 0, 0, 0) else none)) else (bif Nat.ble pc 43 then (bif Nat.beq pc 43 then some (.iload_n 2, 44, 0, 0, 0, 0) else none) else (bif Nat.beq pc 44 then some (.ireturn, 45, 0, 0, 0, 0) else none))))))
set_option maxRecDepth 100000 in
def fp_k96 (pc : Nat) : Option FpE := (bif Nat.ble pc 57 then (bif Nat.ble pc 27 then (bif Nat.ble pc 12 then (bif Nat.ble pc 5 then (bif Nat.ble pc 1 then (bif Nat.ble pc 0 then (bif Nat.beq pc 0 then some (.aload_n 0, 1, 0, 0, 0, 0) else none) else (bif Nat.beq pc 1 then some (.getfield 7, 4, 0, 7, 0, 607) else none)) else (bif Nat.ble pc 4 then (bif Nat.beq pc 4 then some (.iload_n 1, 5, 0, 0, 0, 0) else none) else (bif Nat.beq pc 5 then some (.iload_n 2, 6, 0, 0, 0, 0) else none))) else (bif Nat.ble pc 9 then (bif Nat.ble pc 6 then (bif Nat.beq pc 6 then some (.invokestatic 43, 9, 0, 92, 2, 682) else none) else (bif Nat.beq pc 9 then some (.iaload, 10, 0, 0, 0, 0) else none)) else (bif Nat.ble pc 10 then (bif Nat.beq pc 10 then some (.istore_n 3, 11, 0, 0, 0, 0) else none) else (bif Nat.ble pc 11 then (bif Nat.beq pc 11 then some (.aload_n 0, 12, 0, 0, 0, 0) else none) else (bif Nat.beq pc 12 then some (.getfield 7, 15, 0, 7, 0, 607) else none))))) else (bif Nat.ble pc 20 then (bif Nat.ble pc 16 then (bif Nat.ble pc 15 then (bif Nat.beq pc 15 then some (.iload_n 1, 16, 0, 0, 0, 0) else none) else (bif Nat.beq pc 16 then some (.iload_n 2, 17, 0, 0, 0, 0) else none)) else (bif Nat.ble pc 17 then (bif Nat.beq pc 17 then some (.invokestatic 43, 20, 0, 92, 2, 682) else none) else (bif Nat.beq pc 20 then some (.iconst 1, 21, 0, 0, 0, 0) else none))) else (bif Nat.ble pc 22 then (bif Nat.ble pc 21 then (bif Nat.beq pc 21 then some (.iadd, 22, 0, 0, 0, 0) else none) else (bif Nat.beq pc 22 then some (.iaload, 23, 0, 0, 0, 0) else none)) else (bif Nat.ble pc 23 then (bif Nat.beq pc 23 then some (.istore 4, 25, 0, 0, 0, 0) else none) else (bif Nat.ble pc 25 then (bif Nat.beq pc 25 then some (.bipush (-5), 27, 0, 0, 0, 0) else none) else (bif Nat.beq pc 27 then some (.istore 5, 29, 0, 0, 0, 0) else none)))))) else (bif Nat.ble pc 39 then (bif Nat.ble pc 34 then (bif Nat.ble pc 30 then (bif Nat.ble pc 29 then (bif Nat.beq pc 29 then some (.aload_n 0, 30, 0, 0, 0, 0) else none) else (bif Nat.beq pc 30 then some (.getfield 7, 33, 0, 7, 0, 607) else none)) else (bif Nat.ble pc 33 then (bif Nat.beq pc 33 then some (.iload_n 1, 34, 0, 0, 0, 0) else none) else (bif Nat.beq pc 34 then some (.iconst 3, 35, 0, 0, 0, 0) else none))) else (bif Nat.ble pc 36 then (bif Nat.ble pc 35 then (bif Nat.beq pc 35 then some (.iadd, 36, 0, 0, 0, 0) else none) else (bif Nat.beq pc 36 then some (.iaload, 37, 0, 0, 0, 0) else none)) else (bif Nat.ble pc 37 then (bif Nat.beq pc 37 then some (.iconst 1, 38, 0, 0, 0, 0) else none) else (bif Nat.ble pc 38 then (bif Nat.beq pc 38 then some (.isub, 39, 0, 0, 0, 0) else none) else (bif Nat.beq pc 39 then some (.istore 6, 41, 0, 0, 0, 0) else none))))) else (bif Nat.ble pc 47 then (bif Nat.ble pc 43 then (bif Nat.ble pc 41 then (bif Nat.beq pc 41 then some (.iload 6, 43, 0, 0, 0, 0) else none) else (bif Nat.beq pc 43 then some (.ifCond .lt 86, 46, 129, 0, 0, 0) else none)) else (bif Nat.ble pc 46 then (bif Nat.beq pc 46 then some (.iload_n 1, 47, 0, 0, 0, 0) else none) else (bif Nat.beq pc 47 then some (.iload 6, 49, 0, 0, 0, 0) else none))) else (bif Nat.ble pc 52 then (bif Nat.ble pc 49 then (bif Nat.beq pc 49 then some (.invokestatic 36, 52, 0, 90, 2, 671) else none) else (bif Nat.beq pc 52 then some (.istore 7, 54, 0, 0, 0, 0) else none)) else (bif Nat.ble pc 54 then (bif Nat.beq pc 54 then some (.iload 4, 56, 0, 0, 0, 0) else none) else (bif Nat.ble pc 56 then (bif Nat.beq pc 56 then some (.iconst 1, 57, 0, 0, 0, 0) else none) else (bif Nat.beq pc 57 then some (.if_icmp .eq 16, 60, 73, 0, 0, 0) else none))))))) else (bif Nat.ble pc 92 then (bif Nat.ble pc 75 then (bif Nat.ble pc 66 then (bif Nat.ble pc 61 then (bif Nat.ble pc 60 then (bif Nat.beq pc 60 then some (.aload_n 0, 61, 0, 0, 0, 0) else none) else (bif Nat.beq pc 61 then some (.getfield 7, 64, 0, 7, 0, 607) else none)) else (bif Nat.ble pc 64 then (bif Nat.beq pc 64 then some (.iload 7, 66, 0, 0, 0, 0) else none) else (bif Nat.beq pc 66 then some (.bipush 8, 68, 0, 0, 0, 0) else none))) else (bif Nat.ble pc 69 then (bif Nat.ble pc 68 then (bif Nat.beq pc 68 then some (.iadd, 69, 0, 0, 0, 0) else none) else (bif Nat.beq pc 69 then some (.iaload, 70, 0, 0, 0, 0) else none)) else (bif Nat.ble pc 70 then (bif Nat.beq pc 70 then some (.ifCond .le 25, 73, 95, 0, 0, 0) else none) else (bif Nat.ble pc 73 then (bif Nat.beq pc 73 then some (.iload 4, 75, 0, 0, 0, 0) else none) else (bif Nat.beq pc 75 then some (.ifCond .eq 16, 78, 91, 0, 0, 0) else none))))) else (bif Nat.ble pc 84 then (bif Nat.ble pc 79 then (bif Nat.ble pc 78 then (bif Nat.beq pc 78 then some (.aload_n 0, 79, 0, 0, 0, 0) else none) else (bif Nat.beq pc 79 then some (.getfield 7, 82, 0, 7, 0, 607) else none)) else (bif Nat.ble pc 82 then (bif Nat.beq pc 82 then some (.iload 7, 84, 0, 0, 0, 0) else none) else (bif Nat.beq pc 84 then some (.bipush 9, 86, 0, 0, 0, 0) else none))) else (bif Nat.ble pc 87 then (bif Nat.ble pc 86 then (bif Nat.beq pc 86 then some (.iadd, 87, 0, 0, 0, 0) else none) else (bif Nat.beq pc 87 then some (.iaload, 88, 0, 0, 0, 0) else none)) else (bif Nat.ble pc 88 then (bif Nat.beq pc 88 then some (.ifCond .le 7, 91, 95, 0, 0, 0) else none) else (bif Nat.ble pc 91 then (bif Nat.beq pc 91 then some (.iconst 1, 92, 0, 0, 0, 0) else none) else (bif Nat.beq pc 92 then some (.goto 4, 95, 96, 0, 0, 0) else none)))))) else (bif Nat.ble pc 108 then (bif Nat.ble pc 100 then (bif Nat.ble pc 96 then (bif Nat.ble pc 95 then (bif Nat.beq pc 95 then some (.iconst 0, 96, 0, 0, 0, 0) else none) else (bif Nat.beq pc 96 then some (.istore 8, 98, 0, 0, 0, 0) else none)) else (bif Nat.ble pc 98 then (bif Nat.beq pc 98 then some (.iload 8, 100, 0, 0, 0, 0) else none) else (bif Nat.beq pc 100 then some (.ifCond .eq 19, 103, 119, 0, 0, 0) else none))) else (bif Nat.ble pc 104 then (bif Nat.ble pc 103 then (bif Nat.beq pc 103 then some (.aload_n 0, 104, 0, 0, 0, 0) else none) else (bif Nat.beq pc 104 then some (.iload_n 1, 105, 0, 0, 0, 0) else none)) else (bif Nat.ble pc 105 then (bif Nat.beq pc 105 then some (.iload 6, 107, 0, 0, 0, 0) else none) else (bif Nat.ble pc 107 then (bif Nat.beq pc 107 then some (.iload_n 3, 108, 0, 0, 0, 0) else none) else (bif Nat.beq pc 108 then some (.invokevirtual 40, 111, 7, 93, 4, 725) else none))))) else (bif Nat.ble pc 119 then (bif Nat.ble pc 114 then (bif Nat.ble pc 111 then (bif Nat.beq pc 111 then some (.ifCond .eq 8, 114, 119, 0, 0, 0) else none) else (bif Nat.beq pc 114 then some (.iload 6, 116, 0, 0, 0, 0) else none)) else (bif Nat.ble pc 116 then (bif Nat.beq pc 116 then some (.goto 5, 119, 121, 0, 0, 0) else none) else (bif Nat.beq pc 119 then some (.iload 5, 121, 0, 0, 0, 0) else none))) else (bif Nat.ble pc 123 then (bif Nat.ble pc 121 then (bif Nat.beq pc 121 then some (.istore 5, 123, 0, 0, 0, 0) else none) else (bif Nat.beq pc 123 then some (.iinc 6 (-1), 126, 0, 0, 0, 0) else none)) else (bif Nat.ble pc 126 then (bif Nat.beq pc 126 then some (.goto (-85), 129, 41, 0, 0, 0) else none) else (bif Nat.ble pc 129 then (bif Nat.beq pc 129 then some (.iload 5, 131, 0, 0, 0, 0) else none) else (bif Nat.beq pc 131 then some (.ireturn, 132, 0, 0, 0, 0) else none))))))))
set_option maxRecDepth 100000 in
def fp_k97 (pc : Nat) : Option FpE := (bif Nat.ble pc 22 then (bif Nat.ble pc 11 then (bif Nat.ble pc 5 then (bif Nat.ble pc 1 then (bif Nat.ble pc 0 then (bif Nat.beq pc 0 then some (.aload_n 0, 1, 0, 0, 0, 0) else none) else (bif Nat.beq pc 1 then some (.getfield 7, 4, 0, 7, 0, 607) else none)) else (bif Nat.ble pc 4 then (bif Nat.beq pc 4 then some (.iload_n 1, 5, 0, 0, 0, 0) else none) else (bif Nat.beq pc 5 then some (.bipush 127, 7, 0, 0, 0, 0) else none))) else (bif Nat.ble pc 8 then (bif Nat.ble pc 7 then (bif Nat.beq pc 7 then some (.iadd, 8, 0, 0, 0, 0) else none) else (bif Nat.beq pc 8 then some (.dup2, 9, 0, 0, 0, 0) else none)) else (bif Nat.ble pc 9 then (bif Nat.beq pc 9 then some (.iaload, 10, 0, 0, 0, 0) else none) else (bif Nat.ble pc 10 then (bif Nat.beq pc 10 then some (.iconst 1, 11, 0, 0, 0, 0) else none) else (bif Nat.beq pc 11 then some (.isub, 12, 0, 0, 0, 0) else none))))) else (bif Nat.ble pc 15 then (bif Nat.ble pc 13 then (bif Nat.ble pc 12 then (bif Nat.beq pc 12 then some (.iastore, 13, 0, 0, 0, 0) else none) else (bif Nat.beq pc 13 then some (.iload_n 1, 14, 0, 0, 0, 0) else none)) else (bif Nat.ble pc 14 then (bif Nat.beq pc 14 then some (.iload_n 2, 15, 0, 0, 0, 0) else none) else (bif Nat.beq pc 15 then some (.invokestatic 43, 18, 0, 92, 2, 682) else none))) else (bif Nat.ble pc 19 then (bif Nat.ble pc 18 then (bif Nat.beq pc 18 then some (.istore_n 3, 19, 0, 0, 0, 0) else none) else (bif Nat.beq pc 19 then some (.iload_n 3, 20, 0, 0, 0, 0) else none)) else (bif Nat.ble pc 20 then (bif Nat.beq pc 20 then some (.iload_n 1, 21, 0, 0, 0, 0) else none) else (bif Nat.ble pc 21 then (bif Nat.beq pc 21 then some (.aload_n 0, 22, 0, 0, 0, 0) else none) else (bif Nat.beq pc 22 then some (.getfield 7, 25, 0, 7, 0, 607) else none)))))) else (bif Nat.ble pc 40 then (bif Nat.ble pc 29 then (bif Nat.ble pc 26 then (bif Nat.ble pc 25 then (bif Nat.beq pc 25 then some (.iload_n 1, 26, 0, 0, 0, 0) else none) else (bif Nat.beq pc 26 then some (.bipush 127, 28, 0, 0, 0, 0) else none)) else (bif Nat.ble pc 28 then (bif Nat.beq pc 28 then some (.iadd, 29, 0, 0, 0, 0) else none) else (bif Nat.beq pc 29 then some (.iaload, 30, 0, 0, 0, 0) else none))) else (bif Nat.ble pc 33 then (bif Nat.ble pc 30 then (bif Nat.beq pc 30 then some (.invokestatic 43, 33, 0, 92, 2, 682) else none) else (bif Nat.beq pc 33 then some (.if_icmp .ge 23, 36, 56, 0, 0, 0) else none)) else (bif Nat.ble pc 36 then (bif Nat.beq pc 36 then some (.aload_n 0, 37, 0, 0, 0, 0) else none) else (bif Nat.ble pc 37 then (bif Nat.beq pc 37 then some (.getfield 7, 40, 0, 7, 0, 607) else none) else (bif Nat.beq pc 40 then some (.iload_n 3, 41, 0, 0, 0, 0) else none))))) else (bif Nat.ble pc 47 then (bif Nat.ble pc 42 then (bif Nat.ble pc 41 then (bif Nat.beq pc 41 then some (.aload_n 0, 42, 0, 0, 0, 0) else none) else (bif Nat.beq pc 42 then some (.getfield 7, 45, 0, 7, 0, 607) else none)) else (bif Nat.ble pc 45 then (bif Nat.beq pc 45 then some (.iload_n 3, 46, 0, 0, 0, 0) else none) else (bif Nat.ble pc 46 then (bif Nat.beq pc 46 then some (.iconst 3, 47, 0, 0, 0, 0) else none) else (bif Nat.beq pc 47 then some (.iadd, 48, 0, 0, 0, 0) else none)))) else (bif Nat.ble pc 49 then (bif Nat.ble pc 48 then (bif Nat.beq pc 48 then some (.iaload, 49, 0, 0, 0, 0) else none) else (bif Nat.beq pc 49 then some (.iastore, 50, 0, 0, 0, 0) else none)) else (bif Nat.ble pc 50 then (bif Nat.beq pc 50 then some (.iinc 3 1, 53, 0, 0, 0, 0) else none) else (bif Nat.ble pc 53 then (bif Nat.beq pc 53 then some (.goto (-34), 56, 19, 0, 0, 0) else none) else (bif Nat.beq pc 56 then some (.return_, 57, 0, 0, 0, 0) else none)))))))
set_option maxRecDepth 100000 in
def fp_k98 (pc : Nat) : Option FpE := (bif Nat.ble pc 63 then (bif Nat.ble pc 28 then (bif Nat.ble pc 13 then (bif Nat.ble pc 6 then (bif Nat.ble pc 1 then (bif Nat.ble pc 0 then (bif Nat.beq pc 0 then some (.aload_n 0, 1, 0, 0, 0, 0) else none) else (bif Nat.beq pc 1 then some (.iload_n 1, 2, 0, 0, 0, 0) else none)) else (bif Nat.ble pc 2 then (bif Nat.beq pc 2 then some (.iload_n 2, 3, 0, 0, 0, 0) else none) else (bif Nat.ble pc 3 then (bif Nat.beq pc 3 then some (.invokevirtual 46, 6, 7, 96, 3, 721) else none) else (bif Nat.beq pc 6 then some (.istore_n 3, 7, 0, 0, 0, 0) else none)))) else (bif Nat.ble pc 8 then (bif Nat.ble pc 7 then (bif Nat.beq pc 7 then some (.iload_n 3, 8, 0, 0, 0, 0) else none) else (bif Nat.beq pc 8 then some (.ifCond .ge 5, 11, 13, 0, 0, 0) else none)) else (bif Nat.ble pc 11 then (bif Nat.beq pc 11 then some (.iconst 0, 12, 0, 0, 0, 0) else none) else (bif Nat.ble pc 12 then (bif Nat.beq pc 12 then some (.ireturn, 13, 0, 0, 1, 0) else none) else (bif Nat.beq pc 13 then some (.aload_n 0, 14, 0, 0, 0, 0) else none))))) else (bif Nat.ble pc 22 then (bif Nat.ble pc 17 then (bif Nat.ble pc 14 then (bif Nat.beq pc 14 then some (.getfield 7, 17, 0, 7, 0, 607) else none) else (bif Nat.beq pc 17 then some (.iload_n 1, 18, 0, 0, 0, 0) else none)) else (bif Nat.ble pc 18 then (bif Nat.beq pc 18 then some (.iload_n 2, 19, 0, 0, 0, 0) else none) else (bif Nat.ble pc 19 then (bif Nat.beq pc 19 then some (.invokestatic 43, 22, 0, 92, 2, 682) else none) else (bif Nat.beq pc 22 then some (.iconst 1, 23, 0, 0, 0, 0) else none)))) else (bif Nat.ble pc 24 then (bif Nat.ble pc 23 then (bif Nat.beq pc 23 then some (.iadd, 24, 0, 0, 0, 0) else none) else (bif Nat.beq pc 24 then some (.iaload, 25, 0, 0, 0, 0) else none)) else (bif Nat.ble pc 25 then (bif Nat.beq pc 25 then some (.istore 4, 27, 0, 0, 0, 0) else none) else (bif Nat.ble pc 27 then (bif Nat.beq pc 27 then some (.aload_n 0, 28, 0, 0, 0, 0) else none) else (bif Nat.beq pc 28 then some (.getfield 7, 31, 0, 7, 0, 607) else none)))))) else (bif Nat.ble pc 44 then (bif Nat.ble pc 38 then (bif Nat.ble pc 32 then (bif Nat.ble pc 31 then (bif Nat.beq pc 31 then some (.iload_n 1, 32, 0, 0, 0, 0) else none) else (bif Nat.beq pc 32 then some (.iload_n 3, 33, 0, 0, 0, 0) else none)) else (bif Nat.ble pc 33 then (bif Nat.beq pc 33 then some (.invokestatic 36, 36, 0, 90, 2, 671) else none) else (bif Nat.ble pc 36 then (bif Nat.beq pc 36 then some (.bipush 8, 38, 0, 0, 0, 0) else none) else (bif Nat.beq pc 38 then some (.iadd, 39, 0, 0, 0, 0) else none)))) else (bif Nat.ble pc 40 then (bif Nat.ble pc 39 then (bif Nat.beq pc 39 then some (.dup2, 40, 0, 0, 0, 0) else none) else (bif Nat.beq pc 40 then some (.iaload, 41, 0, 0, 0, 0) else none)) else (bif Nat.ble pc 41 then (bif Nat.beq pc 41 then some (.iload 4, 43, 0, 0, 0, 0) else none) else (bif Nat.ble pc 43 then (bif Nat.beq pc 43 then some (.iconst 1, 44, 0, 0, 0, 0) else none) else (bif Nat.beq pc 44 then some (.if_icmp .ne 7, 47, 51, 0, 0, 0) else none))))) else (bif Nat.ble pc 53 then (bif Nat.ble pc 48 then (bif Nat.ble pc 47 then (bif Nat.beq pc 47 then some (.iconst 0, 48, 0, 0, 0, 0) else none) else (bif Nat.beq pc 48 then some (.goto 4, 51, 52, 0, 0, 0) else none)) else (bif Nat.ble pc 51 then (bif Nat.beq pc 51 then some (.iconst 1, 52, 0, 0, 0, 0) else none) else (bif Nat.ble pc 52 then (bif Nat.beq pc 52 then some (.isub, 53, 0, 0, 0, 0) else none) else (bif Nat.beq pc 53 then some (.iastore, 54, 0, 0, 0, 0) else none)))) else (bif Nat.ble pc 58 then (bif Nat.ble pc 54 then (bif Nat.beq pc 54 then some (.aload_n 0, 55, 0, 0, 0, 0) else none) else (bif Nat.ble pc 55 then (bif Nat.beq pc 55 then some (.getfield 7, 58, 0, 7, 0, 607) else none) else (bif Nat.beq pc 58 then some (.iload_n 1, 59, 0, 0, 0, 0) else none))) else (bif Nat.ble pc 59 then (bif Nat.beq pc 59 then some (.iload_n 3, 60, 0, 0, 0, 0) else none) else (bif Nat.ble pc 60 then (bif Nat.beq pc 60 then some (.invokestatic 36, 63, 0, 90, 2, 671) else none) else (bif Nat.beq pc 63 then some (.bipush 9, 65, 0, 0, 0, 0) else none))))))) else (bif Nat.ble pc 94 then (bif Nat.ble pc 79 then (bif Nat.ble pc 70 then (bif Nat.ble pc 66 then (bif Nat.ble pc 65 then (bif Nat.beq pc 65 then some (.iadd, 66, 0, 0, 0, 0) else none) else (bif Nat.beq pc 66 then some (.dup2, 67, 0, 0, 0, 0) else none)) else (bif Nat.ble pc 67 then (bif Nat.beq pc 67 then some (.iaload, 68, 0, 0, 0, 0) else none) else (bif Nat.ble pc 68 then (bif Nat.beq pc 68 then some (.iload 4, 70, 0, 0, 0, 0) else none) else (bif Nat.beq pc 70 then some (.ifCond .ne 7, 73, 77, 0, 0, 0) else none)))) else (bif Nat.ble pc 74 then (bif Nat.ble pc 73 then (bif Nat.beq pc 73 then some (.iconst 0, 74, 0, 0, 0, 0) else none) else (bif Nat.beq pc 74 then some (.goto 4, 77, 78, 0, 0, 0) else none)) else (bif Nat.ble pc 77 then (bif Nat.beq pc 77 then some (.iconst 1, 78, 0, 0, 0, 0) else none) else (bif Nat.ble pc 78 then (bif Nat.beq pc 78 then some (.isub, 79, 0, 0, 0, 0) else none) else (bif Nat.beq pc 79 then some (.iastore, 80, 0, 0, 0, 0) else none))))) else (bif Nat.ble pc 88 then (bif Nat.ble pc 81 then (bif Nat.ble pc 80 then (bif Nat.beq pc 80 then some (.aload_n 0, 81, 0, 0, 0, 0) else none) else (bif Nat.beq pc 81 then some (.getfield 7, 84, 0, 7, 0, 607) else none)) else (bif Nat.ble pc 84 then (bif Nat.beq pc 84 then some (.iload_n 1, 85, 0, 0, 0, 0) else none) else (bif Nat.ble pc 85 then (bif Nat.beq pc 85 then some (.sipush 168, 88, 0, 0, 0, 0) else none) else (bif Nat.beq pc 88 then some (.iadd, 89, 0, 0, 0, 0) else none)))) else (bif Nat.ble pc 90 then (bif Nat.ble pc 89 then (bif Nat.beq pc 89 then some (.dup2, 90, 0, 0, 0, 0) else none) else (bif Nat.beq pc 90 then some (.iaload, 91, 0, 0, 0, 0) else none)) else (bif Nat.ble pc 91 then (bif Nat.beq pc 91 then some (.iload 4, 93, 0, 0, 0, 0) else none) else (bif Nat.ble pc 93 then (bif Nat.beq pc 93 then some (.iconst 2, 94, 0, 0, 0, 0) else none) else (bif Nat.beq pc 94 then some (.if_icmp .ne 7, 97, 101, 0, 0, 0) else none)))))) else (bif Nat.ble pc 112 then (bif Nat.ble pc 103 then (bif Nat.ble pc 98 then (bif Nat.ble pc 97 then (bif Nat.beq pc 97 then some (.iconst 5, 98, 0, 0, 0, 0) else none) else (bif Nat.beq pc 98 then some (.goto 4, 101, 102, 0, 0, 0) else none)) else (bif Nat.ble pc 101 then (bif Nat.beq pc 101 then some (.iconst 2, 102, 0, 0, 0, 0) else none) else (bif Nat.ble pc 102 then (bif Nat.beq pc 102 then some (.iadd, 103, 0, 0, 0, 0) else none) else (bif Nat.beq pc 103 then some (.iastore, 104, 0, 0, 0, 0) else none)))) else (bif Nat.ble pc 105 then (bif Nat.ble pc 104 then (bif Nat.beq pc 104 then some (.aload_n 0, 105, 0, 0, 0, 0) else none) else (bif Nat.beq pc 105 then some (.getfield 7, 108, 0, 7, 0, 607) else none)) else (bif Nat.ble pc 108 then (bif Nat.beq pc 108 then some (.iload_n 1, 109, 0, 0, 0, 0) else none) else (bif Nat.ble pc 109 then (bif Nat.beq pc 109 then some (.sipush 166, 112, 0, 0, 0, 0) else none) else (bif Nat.beq pc 112 then some (.iadd, 113, 0, 0, 0, 0) else none))))) else (bif Nat.ble pc 117 then (bif Nat.ble pc 114 then (bif Nat.ble pc 113 then (bif Nat.beq pc 113 then some (.dup2, 114, 0, 0, 0, 0) else none) else (bif Nat.beq pc 114 then some (.iaload, 115, 0, 0, 0, 0) else none)) else (bif Nat.ble pc 115 then (bif Nat.beq pc 115 then some (.iconst 1, 116, 0, 0, 0, 0) else none) else (bif Nat.ble pc 116 then (bif Nat.beq pc 116 then some (.iadd, 117, 0, 0, 0, 0) else none) else (bif Nat.beq pc 117 then some (.iastore, 118, 0, 0, 0, 0) else none)))) else (bif Nat.ble pc 120 then (bif Nat.ble pc 118 then (bif Nat.beq pc 118 then some (.aload_n 0, 119, 0, 0, 0, 0) else none) else (bif Nat.ble pc 119 then (bif Nat.beq pc 119 then some (.iload_n 1, 120, 0, 0, 0, 0) else none) else (bif Nat.beq pc 120 then some (.iload_n 2, 121, 0, 0, 0, 0) else none))) else (bif Nat.ble pc 121 then (bif Nat.beq pc 121 then some (.invokevirtual 49, 124, 7, 97, 3, 729) else none) else (bif Nat.ble pc 124 then (bif Nat.beq pc 124 then some (.iconst 1, 125, 0, 0, 0, 0) else none) else (bif Nat.beq pc 125 then some (.ireturn, 126, 0, 0, 1, 0) else none))))))))
set_option maxRecDepth 100000 in
def fp_k99 (pc : Nat) : Option FpE := (bif Nat.ble pc 25 then (bif Nat.ble pc 10 then (bif Nat.ble pc 3 then (bif Nat.ble pc 1 then (bif Nat.ble pc 0 then (bif Nat.beq pc 0 then some (.iconst 0, 1, 0, 0, 0, 0) else none) else (bif Nat.beq pc 1 then some (.istore_n 2, 2, 0, 0, 0, 0) else none)) else (bif Nat.ble pc 2 then (bif Nat.beq pc 2 then some (.iconst 0, 3, 0, 0, 0, 0) else none) else (bif Nat.beq pc 3 then some (.istore_n 3, 4, 0, 0, 0, 0) else none))) else (bif Nat.ble pc 5 then (bif Nat.ble pc 4 then (bif Nat.beq pc 4 then some (.iload_n 3, 5, 0, 0, 0, 0) else none) else (bif Nat.beq pc 5 then some (.aload_n 0, 6, 0, 0, 0, 0) else none)) else (bif Nat.ble pc 6 then (bif Nat.beq pc 6 then some (.getfield 7, 9, 0, 7, 0, 607) else none) else (bif Nat.ble pc 9 then (bif Nat.beq pc 9 then some (.iload_n 1, 10, 0, 0, 0, 0) else none) else (bif Nat.beq pc 10 then some (.bipush 127, 12, 0, 0, 0, 0) else none))))) else (bif Nat.ble pc 17 then (bif Nat.ble pc 13 then (bif Nat.ble pc 12 then (bif Nat.beq pc 12 then some (.iadd, 13, 0, 0, 0, 0) else none) else (bif Nat.beq pc 13 then some (.iaload, 14, 0, 0, 0, 0) else none)) else (bif Nat.ble pc 14 then (bif Nat.beq pc 14 then some (.if_icmp .ge 40, 17, 54, 0, 0, 0) else none) else (bif Nat.beq pc 17 then some (.aload_n 0, 18, 0, 0, 0, 0) else none))) else (bif Nat.ble pc 19 then (bif Nat.ble pc 18 then (bif Nat.beq pc 18 then some (.iload_n 1, 19, 0, 0, 0, 0) else none) else (bif Nat.beq pc 19 then some (.iload_n 3, 20, 0, 0, 0, 0) else none)) else (bif Nat.ble pc 20 then (bif Nat.beq pc 20 then some (.invokevirtual 52, 23, 7, 98, 3, 717) else none) else (bif Nat.ble pc 23 then (bif Nat.beq pc 23 then some (.istore 4, 25, 0, 0, 0, 0) else none) else (bif Nat.beq pc 25 then some (.iload_n 2, 26, 0, 0, 0, 0) else none)))))) else (bif Nat.ble pc 39 then (bif Nat.ble pc 32 then (bif Nat.ble pc 28 then (bif Nat.ble pc 26 then (bif Nat.beq pc 26 then some (.iload 4, 28, 0, 0, 0, 0) else none) else (bif Nat.beq pc 28 then some (.ifCond .eq 7, 31, 35, 0, 0, 0) else none)) else (bif Nat.ble pc 31 then (bif Nat.beq pc 31 then some (.iconst 1, 32, 0, 0, 0, 0) else none) else (bif Nat.beq pc 32 then some (.goto 4, 35, 36, 0, 0, 0) else none))) else (bif Nat.ble pc 36 then (bif Nat.ble pc 35 then (bif Nat.beq pc 35 then some (.iconst 0, 36, 0, 0, 0, 0) else none) else (bif Nat.beq pc 36 then some (.iadd, 37, 0, 0, 0, 0) else none)) else (bif Nat.ble pc 37 then (bif Nat.beq pc 37 then some (.istore_n 2, 38, 0, 0, 0, 0) else none) else (bif Nat.ble pc 38 then (bif Nat.beq pc 38 then some (.iload_n 3, 39, 0, 0, 0, 0) else none) else (bif Nat.beq pc 39 then some (.iload 4, 41, 0, 0, 0, 0) else none))))) else (bif Nat.ble pc 48 then (bif Nat.ble pc 44 then (bif Nat.ble pc 41 then (bif Nat.beq pc 41 then some (.ifCond .eq 7, 44, 48, 0, 0, 0) else none) else (bif Nat.beq pc 44 then some (.iconst 0, 45, 0, 0, 0, 0) else none)) else (bif Nat.ble pc 45 then (bif Nat.beq pc 45 then some (.goto 4, 48, 49, 0, 0, 0) else none) else (bif Nat.beq pc 48 then some (.iconst 1, 49, 0, 0, 0, 0) else none))) else (bif Nat.ble pc 50 then (bif Nat.ble pc 49 then (bif Nat.beq pc 49 then some (.iadd, 50, 0, 0, 0, 0) else none) else (bif Nat.beq pc 50 then some (.istore_n 3, 51, 0, 0, 0, 0) else none)) else (bif Nat.ble pc 51 then (bif Nat.beq pc 51 then some (.goto (-47), 54, 4, 0, 0, 0) else none) else (bif Nat.ble pc 54 then (bif Nat.beq pc 54 then some (.iload_n 2, 55, 0, 0, 0, 0) else none) else (bif Nat.beq pc 55 then some (.ireturn, 56, 0, 0, 0, 0) else none)))))))
set_option maxRecDepth 100000 in
def fp_k100 (pc : Nat) : Option FpE := (bif Nat.ble pc 46 then (bif Nat.ble pc 20 then (bif Nat.ble pc 10 then (bif Nat.ble pc 2 then (bif Nat.ble pc 0 then (bif Nat.beq pc 0 then some (.iconst 0, 1, 0, 0, 0, 0) else none) else (bif Nat.ble pc 1 then (bif Nat.beq pc 1 then some (.istore_n 3, 2, 0, 0, 0, 0) else none) else (bif Nat.beq pc 2 then some (.aload_n 0, 3, 0, 0, 0, 0) else none))) else (bif Nat.ble pc 6 then (bif Nat.ble pc 3 then (bif Nat.beq pc 3 then some (.getfield 7, 6, 0, 7, 0, 607) else none) else (bif Nat.beq pc 6 then some (.iload_n 1, 7, 0, 0, 0, 0) else none)) else (bif Nat.ble pc 7 then (bif Nat.beq pc 7 then some (.sipush 164, 10, 0, 0, 0, 0) else none) else (bif Nat.beq pc 10 then some (.iadd, 11, 0, 0, 0, 0) else none)))) else (bif Nat.ble pc 14 then (bif Nat.ble pc 12 then (bif Nat.ble pc 11 then (bif Nat.beq pc 11 then some (.dup2, 12, 0, 0, 0, 0) else none) else (bif Nat.beq pc 12 then some (.iaload, 13, 0, 0, 0, 0) else none)) else (bif Nat.ble pc 13 then (bif Nat.beq pc 13 then some (.iload_n 2, 14, 0, 0, 0, 0) else none) else (bif Nat.beq pc 14 then some (.iadd, 15, 0, 0, 0, 0) else none))) else (bif Nat.ble pc 16 then (bif Nat.ble pc 15 then (bif Nat.beq pc 15 then some (.iastore, 16, 0, 0, 0, 0) else none) else (bif Nat.beq pc 16 then some (.aload_n 0, 17, 0, 0, 0, 0) else none)) else (bif Nat.ble pc 17 then (bif Nat.beq pc 17 then some (.getfield 7, 20, 0, 7, 0, 607) else none) else (bif Nat.beq pc 20 then some (.iload_n 1, 21, 0, 0, 0, 0) else none))))) else (bif Nat.ble pc 31 then (bif Nat.ble pc 25 then (bif Nat.ble pc 23 then (bif Nat.ble pc 21 then (bif Nat.beq pc 21 then some (.bipush 127, 23, 0, 0, 0, 0) else none) else (bif Nat.beq pc 23 then some (.iadd, 24, 0, 0, 0, 0) else none)) else (bif Nat.ble pc 24 then (bif Nat.beq pc 24 then some (.iaload, 25, 0, 0, 0, 0) else none) else (bif Nat.beq pc 25 then some (.iconst 1, 26, 0, 0, 0, 0) else none))) else (bif Nat.ble pc 27 then (bif Nat.ble pc 26 then (bif Nat.beq pc 26 then some (.isub, 27, 0, 0, 0, 0) else none) else (bif Nat.beq pc 27 then some (.istore 4, 29, 0, 0, 0, 0) else none)) else (bif Nat.ble pc 29 then (bif Nat.beq pc 29 then some (.iload 4, 31, 0, 0, 0, 0) else none) else (bif Nat.beq pc 31 then some (.ifCond .lt 52, 34, 83, 0, 0, 0) else none)))) else (bif Nat.ble pc 39 then (bif Nat.ble pc 35 then (bif Nat.ble pc 34 then (bif Nat.beq pc 34 then some (.aload_n 0, 35, 0, 0, 0, 0) else none) else (bif Nat.beq pc 35 then some (.getfield 7, 38, 0, 7, 0, 607) else none)) else (bif Nat.ble pc 38 then (bif Nat.beq pc 38 then some (.iload_n 1, 39, 0, 0, 0, 0) else none) else (bif Nat.beq pc 39 then some (.iload 4, 41, 0, 0, 0, 0) else none))) else (bif Nat.ble pc 44 then (bif Nat.ble pc 41 then (bif Nat.beq pc 41 then some (.invokestatic 43, 44, 0, 92, 2, 682) else none) else (bif Nat.beq pc 44 then some (.iconst 2, 45, 0, 0, 0, 0) else none)) else (bif Nat.ble pc 45 then (bif Nat.beq pc 45 then some (.iadd, 46, 0, 0, 0, 0) else none) else (bif Nat.beq pc 46 then some (.dup2, 47, 0, 0, 0, 0) else none)))))) else (bif Nat.ble pc 69 then (bif Nat.ble pc 56 then (bif Nat.ble pc 50 then (bif Nat.ble pc 48 then (bif Nat.ble pc 47 then (bif Nat.beq pc 47 then some (.iaload, 48, 0, 0, 0, 0) else none) else (bif Nat.beq pc 48 then some (.iload_n 2, 49, 0, 0, 0, 0) else none)) else (bif Nat.ble pc 49 then (bif Nat.beq pc 49 then some (.isub, 50, 0, 0, 0, 0) else none) else (bif Nat.beq pc 50 then some (.iastore, 51, 0, 0, 0, 0) else none))) else (bif Nat.ble pc 52 then (bif Nat.ble pc 51 then (bif Nat.beq pc 51 then some (.aload_n 0, 52, 0, 0, 0, 0) else none) else (bif Nat.beq pc 52 then some (.getfield 7, 55, 0, 7, 0, 607) else none)) else (bif Nat.ble pc 55 then (bif Nat.beq pc 55 then some (.iload_n 1, 56, 0, 0, 0, 0) else none) else (bif Nat.beq pc 56 then some (.iload 4, 58, 0, 0, 0, 0) else none)))) else (bif Nat.ble pc 63 then (bif Nat.ble pc 61 then (bif Nat.ble pc 58 then (bif Nat.beq pc 58 then some (.invokestatic 43, 61, 0, 92, 2, 682) else none) else (bif Nat.beq pc 61 then some (.iconst 2, 62, 0, 0, 0, 0) else none)) else (bif Nat.ble pc 62 then (bif Nat.beq pc 62 then some (.iadd, 63, 0, 0, 0, 0) else none) else (bif Nat.beq pc 63 then some (.iaload, 64, 0, 0, 0, 0) else none))) else (bif Nat.ble pc 67 then (bif Nat.ble pc 64 then (bif Nat.beq pc 64 then some (.ifCond .gt 13, 67, 77, 0, 0, 0) else none) else (bif Nat.beq pc 67 then some (.aload_n 0, 68, 0, 0, 0, 0) else none)) else (bif Nat.ble pc 68 then (bif Nat.beq pc 68 then some (.iload_n 1, 69, 0, 0, 0, 0) else none) else (bif Nat.beq pc 69 then some (.iload 4, 71, 0, 0, 0, 0) else none))))) else (bif Nat.ble pc 88 then (bif Nat.ble pc 80 then (bif Nat.ble pc 74 then (bif Nat.ble pc 71 then (bif Nat.beq pc 71 then some (.invokevirtual 49, 74, 7, 97, 3, 729) else none) else (bif Nat.beq pc 74 then some (.iinc 3 1, 77, 0, 0, 0, 0) else none)) else (bif Nat.ble pc 77 then (bif Nat.beq pc 77 then some (.iinc 4 (-1), 80, 0, 0, 0, 0) else none) else (bif Nat.beq pc 80 then some (.goto (-51), 83, 29, 0, 0, 0) else none))) else (bif Nat.ble pc 84 then (bif Nat.ble pc 83 then (bif Nat.beq pc 83 then some (.aload_n 0, 84, 0, 0, 0, 0) else none) else (bif Nat.beq pc 84 then some (.getfield 7, 87, 0, 7, 0, 607) else none)) else (bif Nat.ble pc 87 then (bif Nat.beq pc 87 then some (.iload_n 1, 88, 0, 0, 0, 0) else none) else (bif Nat.beq pc 88 then some (.sipush 167, 91, 0, 0, 0, 0) else none)))) else (bif Nat.ble pc 94 then (bif Nat.ble pc 92 then (bif Nat.ble pc 91 then (bif Nat.beq pc 91 then some (.iadd, 92, 0, 0, 0, 0) else none) else (bif Nat.beq pc 92 then some (.dup2, 93, 0, 0, 0, 0) else none)) else (bif Nat.ble pc 93 then (bif Nat.beq pc 93 then some (.iaload, 94, 0, 0, 0, 0) else none) else (bif Nat.beq pc 94 then some (.iload_n 3, 95, 0, 0, 0, 0) else none))) else (bif Nat.ble pc 96 then (bif Nat.ble pc 95 then (bif Nat.beq pc 95 then some (.iadd, 96, 0, 0, 0, 0) else none) else (bif Nat.beq pc 96 then some (.iastore, 97, 0, 0, 0, 0) else none)) else (bif Nat.ble pc 97 then (bif Nat.beq pc 97 then some (.iload_n 3, 98, 0, 0, 0, 0) else none) else (bif Nat.beq pc 98 then some (.ireturn, 99, 0, 0, 0, 0) else none)))))))
set_option maxRecDepth 100000 in
def fp_k101 (pc : Nat) : Option FpE := (bif Nat.ble pc 20 then (bif Nat.ble pc 11 then (bif Nat.ble pc 2 then (bif Nat.ble pc 0 then (bif Nat.beq pc 0 then some (.iconst 0, 1, 0, 0, 0, 0) else none) else (bif Nat.ble pc 1 then (bif Nat.beq pc 1 then some (.aload_n 0, 2, 0, 0, 0, 0) else none) else (bif Nat.beq pc 2 then some (.getfield 7, 5, 0, 7, 0, 607) else none))) else (bif Nat.ble pc 7 then (bif Nat.ble pc 5 then (bif Nat.beq pc 5 then some (.bipush 114, 7, 0, 0, 0, 0) else none) else (bif Nat.beq pc 7 then some (.iaload, 8, 0, 0, 0, 0) else none)) else (bif Nat.ble pc 8 then (bif Nat.beq pc 8 then some (.invokestatic 56, 11, 0, 91, 2, 648) else none) else (bif Nat.beq pc 11 then some (.istore_n 3, 12, 0, 0, 0, 0) else none)))) else (bif Nat.ble pc 16 then (bif Nat.ble pc 12 then (bif Nat.beq pc 12 then some (.aload_n 0, 13, 0, 0, 0, 0) else none) else (bif Nat.ble pc 13 then (bif Nat.beq pc 13 then some (.getfield 7, 16, 0, 7, 0, 607) else none) else (bif Nat.beq pc 16 then some (.iload_n 3, 17, 0, 0, 0, 0) else none))) else (bif Nat.ble pc 18 then (bif Nat.ble pc 17 then (bif Nat.beq pc 17 then some (.iload_n 1, 18, 0, 0, 0, 0) else none) else (bif Nat.beq pc 18 then some (.iastore, 19, 0, 0, 0, 0) else none)) else (bif Nat.ble pc 19 then (bif Nat.beq pc 19 then some (.aload_n 0, 20, 0, 0, 0, 0) else none) else (bif Nat.beq pc 20 then some (.getfield 7, 23, 0, 7, 0, 607) else none))))) else (bif Nat.ble pc 29 then (bif Nat.ble pc 25 then (bif Nat.ble pc 23 then (bif Nat.beq pc 23 then some (.iload_n 3, 24, 0, 0, 0, 0) else none) else (bif Nat.ble pc 24 then (bif Nat.beq pc 24 then some (.iconst 1, 25, 0, 0, 0, 0) else none) else (bif Nat.beq pc 25 then some (.iadd, 26, 0, 0, 0, 0) else none))) else (bif Nat.ble pc 27 then (bif Nat.ble pc 26 then (bif Nat.beq pc 26 then some (.iload_n 2, 27, 0, 0, 0, 0) else none) else (bif Nat.beq pc 27 then some (.iastore, 28, 0, 0, 0, 0) else none)) else (bif Nat.ble pc 28 then (bif Nat.beq pc 28 then some (.aload_n 0, 29, 0, 0, 0, 0) else none) else (bif Nat.beq pc 29 then some (.getfield 7, 32, 0, 7, 0, 607) else none)))) else (bif Nat.ble pc 35 then (bif Nat.ble pc 32 then (bif Nat.beq pc 32 then some (.bipush 114, 34, 0, 0, 0, 0) else none) else (bif Nat.ble pc 34 then (bif Nat.beq pc 34 then some (.dup2, 35, 0, 0, 0, 0) else none) else (bif Nat.beq pc 35 then some (.iaload, 36, 0, 0, 0, 0) else none))) else (bif Nat.ble pc 37 then (bif Nat.ble pc 36 then (bif Nat.beq pc 36 then some (.iconst 1, 37, 0, 0, 0, 0) else none) else (bif Nat.beq pc 37 then some (.iadd, 38, 0, 0, 0, 0) else none)) else (bif Nat.ble pc 38 then (bif Nat.beq pc 38 then some (.iastore, 39, 0, 0, 0, 0) else none) else (bif Nat.beq pc 39 then some (.return_, 40, 0, 0, 0, 0) else none))))))
set_option maxRecDepth 100000 in
def fp_k102 (pc : Nat) : Option FpE := (bif Nat.ble pc 46 then (bif Nat.ble pc 24 then (bif Nat.ble pc 12 then (bif Nat.ble pc 2 then (bif Nat.ble pc 0 then (bif Nat.beq pc 0 then some (.iload_n 1, 1, 0, 0, 0, 0) else none) else (bif Nat.ble pc 1 then (bif Nat.beq pc 1 then some (.iconst 1, 2, 0, 0, 0, 0) else none) else (bif Nat.beq pc 2 then some (.sipush 200, 5, 0, 0, 0, 0) else none))) else (bif Nat.ble pc 8 then (bif Nat.ble pc 5 then (bif Nat.beq pc 5 then some (.invokestatic 20, 8, 0, 83, 3, 633) else none) else (bif Nat.beq pc 8 then some (.ifCond .eq 12, 11, 20, 0, 0, 0) else none)) else (bif Nat.ble pc 11 then (bif Nat.beq pc 11 then some (.iload_n 2, 12, 0, 0, 0, 0) else none) else (bif Nat.beq pc 12 then some (.iconst 1, 13, 0, 0, 0, 0) else none)))) else (bif Nat.ble pc 17 then (bif Nat.ble pc 13 then (bif Nat.beq pc 13 then some (.iconst 3, 14, 0, 0, 0, 0) else none) else (bif Nat.ble pc 14 then (bif Nat.beq pc 14 then some (.invokestatic 20, 17, 0, 83, 3, 633) else none) else (bif Nat.beq pc 17 then some (.ifCond .ne 6, 20, 23, 0, 0, 0) else none))) else (bif Nat.ble pc 22 then (bif Nat.ble pc 20 then (bif Nat.beq pc 20 then some (.bipush (-2), 22, 0, 0, 0, 0) else none) else (bif Nat.beq pc 22 then some (.ireturn, 23, 0, 0, 0, 0) else none)) else (bif Nat.ble pc 23 then (bif Nat.beq pc 23 then some (.aload_n 0, 24, 0, 0, 0, 0) else none) else (bif Nat.beq pc 24 then some (.getfield 7, 27, 0, 7, 0, 607) else none))))) else (bif Nat.ble pc 38 then (bif Nat.ble pc 30 then (bif Nat.ble pc 27 then (bif Nat.beq pc 27 then some (.bipush 114, 29, 0, 0, 0, 0) else none) else (bif Nat.ble pc 29 then (bif Nat.beq pc 29 then some (.iaload, 30, 0, 0, 0, 0) else none) else (bif Nat.beq pc 30 then some (.bipush 6, 32, 0, 0, 0, 0) else none))) else (bif Nat.ble pc 35 then (bif Nat.ble pc 32 then (bif Nat.beq pc 32 then some (.if_icmp .ne 6, 35, 38, 0, 0, 0) else none) else (bif Nat.beq pc 35 then some (.bipush (-3), 37, 0, 0, 0, 0) else none)) else (bif Nat.ble pc 37 then (bif Nat.beq pc 37 then some (.ireturn, 38, 0, 0, 0, 0) else none) else (bif Nat.beq pc 38 then some (.iload_n 2, 39, 0, 0, 0, 0) else none)))) else (bif Nat.ble pc 42 then (bif Nat.ble pc 39 then (bif Nat.beq pc 39 then some (.iload_n 1, 40, 0, 0, 0, 0) else none) else (bif Nat.ble pc 40 then (bif Nat.beq pc 40 then some (.bipush 20, 42, 0, 0, 0, 0) else none) else (bif Nat.beq pc 42 then some (.idiv, 43, 0, 0, 0, 0) else none))) else (bif Nat.ble pc 44 then (bif Nat.ble pc 43 then (bif Nat.beq pc 43 then some (.iadd, 44, 0, 0, 0, 0) else none) else (bif Nat.beq pc 44 then some (.istore_n 3, 45, 0, 0, 0, 0) else none)) else (bif Nat.ble pc 45 then (bif Nat.beq pc 45 then some (.aload_n 0, 46, 0, 0, 0, 0) else none) else (bif Nat.beq pc 46 then some (.getfield 7, 49, 0, 7, 0, 607) else none)))))) else (bif Nat.ble pc 73 then (bif Nat.ble pc 60 then (bif Nat.ble pc 53 then (bif Nat.ble pc 49 then (bif Nat.beq pc 49 then some (.sipush 168, 52, 0, 0, 0, 0) else none) else (bif Nat.ble pc 52 then (bif Nat.beq pc 52 then some (.iaload, 53, 0, 0, 0, 0) else none) else (bif Nat.beq pc 53 then some (.iload_n 3, 54, 0, 0, 0, 0) else none))) else (bif Nat.ble pc 57 then (bif Nat.ble pc 54 then (bif Nat.beq pc 54 then some (.if_icmp .ge 6, 57, 60, 0, 0, 0) else none) else (bif Nat.beq pc 57 then some (.bipush (-4), 59, 0, 0, 0, 0) else none)) else (bif Nat.ble pc 59 then (bif Nat.beq pc 59 then some (.ireturn, 60, 0, 0, 0, 0) else none) else (bif Nat.beq pc 60 then some (.aload_n 0, 61, 0, 0, 0, 0) else none)))) else (bif Nat.ble pc 65 then (bif Nat.ble pc 61 then (bif Nat.beq pc 61 then some (.iconst 0, 62, 0, 0, 0, 0) else none) else (bif Nat.ble pc 62 then (bif Nat.beq pc 62 then some (.invokevirtual 32, 65, 7, 88, 2, 636) else none) else (bif Nat.beq pc 65 then some (.aload_n 0, 66, 0, 0, 0, 0) else none))) else (bif Nat.ble pc 69 then (bif Nat.ble pc 66 then (bif Nat.beq pc 66 then some (.getfield 7, 69, 0, 7, 0, 607) else none) else (bif Nat.beq pc 69 then some (.sipush 168, 72, 0, 0, 0, 0) else none)) else (bif Nat.ble pc 72 then (bif Nat.beq pc 72 then some (.dup2, 73, 0, 0, 0, 0) else none) else (bif Nat.beq pc 73 then some (.iaload, 74, 0, 0, 0, 0) else none))))) else (bif Nat.ble pc 80 then (bif Nat.ble pc 76 then (bif Nat.ble pc 74 then (bif Nat.beq pc 74 then some (.iload_n 3, 75, 0, 0, 0, 0) else none) else (bif Nat.ble pc 75 then (bif Nat.beq pc 75 then some (.isub, 76, 0, 0, 0, 0) else none) else (bif Nat.beq pc 76 then some (.iastore, 77, 0, 0, 0, 0) else none))) else (bif Nat.ble pc 78 then (bif Nat.ble pc 77 then (bif Nat.beq pc 77 then some (.aload_n 0, 78, 0, 0, 0, 0) else none) else (bif Nat.beq pc 78 then some (.iload_n 1, 79, 0, 0, 0, 0) else none)) else (bif Nat.ble pc 79 then (bif Nat.beq pc 79 then some (.iload_n 2, 80, 0, 0, 0, 0) else none) else (bif Nat.beq pc 80 then some (.invokevirtual 59, 83, 7, 101, 3, 644) else none)))) else (bif Nat.ble pc 87 then (bif Nat.ble pc 83 then (bif Nat.beq pc 83 then some (.aload_n 0, 84, 0, 0, 0, 0) else none) else (bif Nat.ble pc 84 then (bif Nat.beq pc 84 then some (.getfield 7, 87, 0, 7, 0, 607) else none) else (bif Nat.beq pc 87 then some (.bipush 114, 89, 0, 0, 0, 0) else none))) else (bif Nat.ble pc 90 then (bif Nat.ble pc 89 then (bif Nat.beq pc 89 then some (.iaload, 90, 0, 0, 0, 0) else none) else (bif Nat.beq pc 90 then some (.iconst 1, 91, 0, 0, 0, 0) else none)) else (bif Nat.ble pc 91 then (bif Nat.beq pc 91 then some (.isub, 92, 0, 0, 0, 0) else none) else (bif Nat.beq pc 92 then some (.ireturn, 93, 0, 0, 0, 0) else none)))))))
set_option maxRecDepth 100000 in
def fp_k103 (pc : Nat) : Option FpE := (bif Nat.ble pc 45 then (bif Nat.ble pc 22 then (bif Nat.ble pc 10 then (bif Nat.ble pc 2 then (bif Nat.ble pc 0 then (bif Nat.beq pc 0 then some (.aload_n 0, 1, 0, 0, 0, 0) else none) else (bif Nat.ble pc 1 then (bif Nat.beq pc 1 then some (.iload_n 1, 2, 0, 0, 0, 0) else none) else (bif Nat.beq pc 2 then some (.invokevirtual 62, 5, 7, 85, 2, 655) else none))) else (bif Nat.ble pc 8 then (bif Nat.ble pc 5 then (bif Nat.beq pc 5 then some (.ifCond .ne 5, 8, 10, 0, 0, 0) else none) else (bif Nat.beq pc 8 then some (.iconst (-1), 9, 0, 0, 0, 0) else none)) else (bif Nat.ble pc 9 then (bif Nat.beq pc 9 then some (.ireturn, 10, 0, 0, 0, 0) else none) else (bif Nat.beq pc 10 then some (.iload_n 2, 11, 0, 0, 0, 0) else none)))) else (bif Nat.ble pc 13 then (bif Nat.ble pc 11 then (bif Nat.beq pc 11 then some (.iconst 1, 12, 0, 0, 0, 0) else none) else (bif Nat.ble pc 12 then (bif Nat.beq pc 12 then some (.iconst 3, 13, 0, 0, 0, 0) else none) else (bif Nat.beq pc 13 then some (.invokestatic 20, 16, 0, 83, 3, 633) else none))) else (bif Nat.ble pc 19 then (bif Nat.ble pc 16 then (bif Nat.beq pc 16 then some (.ifCond .ne 6, 19, 22, 0, 0, 0) else none) else (bif Nat.beq pc 19 then some (.bipush (-2), 21, 0, 0, 0, 0) else none)) else (bif Nat.ble pc 21 then (bif Nat.beq pc 21 then some (.ireturn, 22, 0, 0, 0, 0) else none) else (bif Nat.beq pc 22 then some (.iconst 0, 23, 0, 0, 0, 0) else none))))) else (bif Nat.ble pc 33 then (bif Nat.ble pc 27 then (bif Nat.ble pc 23 then (bif Nat.beq pc 23 then some (.iload_n 1, 24, 0, 0, 0, 0) else none) else (bif Nat.ble pc 24 then (bif Nat.beq pc 24 then some (.invokestatic 56, 27, 0, 91, 2, 648) else none) else (bif Nat.beq pc 27 then some (.istore_n 3, 28, 0, 0, 0, 0) else none))) else (bif Nat.ble pc 29 then (bif Nat.ble pc 28 then (bif Nat.beq pc 28 then some (.aload_n 0, 29, 0, 0, 0, 0) else none) else (bif Nat.beq pc 29 then some (.getfield 7, 32, 0, 7, 0, 607) else none)) else (bif Nat.ble pc 32 then (bif Nat.beq pc 32 then some (.iload_n 3, 33, 0, 0, 0, 0) else none) else (bif Nat.beq pc 33 then some (.iaload, 34, 0, 0, 0, 0) else none)))) else (bif Nat.ble pc 39 then (bif Nat.ble pc 34 then (bif Nat.beq pc 34 then some (.bipush 10, 36, 0, 0, 0, 0) else none) else (bif Nat.ble pc 36 then (bif Nat.beq pc 36 then some (.if_icmp .lt 15, 39, 51, 0, 0, 0) else none) else (bif Nat.beq pc 39 then some (.aload_n 0, 40, 0, 0, 0, 0) else none))) else (bif Nat.ble pc 43 then (bif Nat.ble pc 40 then (bif Nat.beq pc 40 then some (.getfield 7, 43, 0, 7, 0, 607) else none) else (bif Nat.beq pc 43 then some (.iload_n 3, 44, 0, 0, 0, 0) else none)) else (bif Nat.ble pc 44 then (bif Nat.beq pc 44 then some (.iconst 1, 45, 0, 0, 0, 0) else none) else (bif Nat.beq pc 45 then some (.iadd, 46, 0, 0, 0, 0) else none)))))) else (bif Nat.ble pc 66 then (bif Nat.ble pc 55 then (bif Nat.ble pc 48 then (bif Nat.ble pc 46 then (bif Nat.beq pc 46 then some (.iaload, 47, 0, 0, 0, 0) else none) else (bif Nat.ble pc 47 then (bif Nat.beq pc 47 then some (.iload_n 2, 48, 0, 0, 0, 0) else none) else (bif Nat.beq pc 48 then some (.if_icmp .ne 6, 51, 54, 0, 0, 0) else none))) else (bif Nat.ble pc 53 then (bif Nat.ble pc 51 then (bif Nat.beq pc 51 then some (.bipush (-4), 53, 0, 0, 0, 0) else none) else (bif Nat.beq pc 53 then some (.ireturn, 54, 0, 0, 0, 0) else none)) else (bif Nat.ble pc 54 then (bif Nat.beq pc 54 then some (.aload_n 0, 55, 0, 0, 0, 0) else none) else (bif Nat.beq pc 55 then some (.iconst 0, 56, 0, 0, 0, 0) else none)))) else (bif Nat.ble pc 60 then (bif Nat.ble pc 56 then (bif Nat.beq pc 56 then some (.invokevirtual 32, 59, 7, 88, 2, 636) else none) else (bif Nat.ble pc 59 then (bif Nat.beq pc 59 then some (.aload_n 0, 60, 0, 0, 0, 0) else none) else (bif Nat.beq pc 60 then some (.getfield 7, 63, 0, 7, 0, 607) else none))) else (bif Nat.ble pc 64 then (bif Nat.ble pc 63 then (bif Nat.beq pc 63 then some (.iload_n 3, 64, 0, 0, 0, 0) else none) else (bif Nat.beq pc 64 then some (.dup2, 65, 0, 0, 0, 0) else none)) else (bif Nat.ble pc 65 then (bif Nat.beq pc 65 then some (.iaload, 66, 0, 0, 0, 0) else none) else (bif Nat.beq pc 66 then some (.iconst 2, 67, 0, 0, 0, 0) else none))))) else (bif Nat.ble pc 75 then (bif Nat.ble pc 69 then (bif Nat.ble pc 67 then (bif Nat.beq pc 67 then some (.isub, 68, 0, 0, 0, 0) else none) else (bif Nat.ble pc 68 then (bif Nat.beq pc 68 then some (.iastore, 69, 0, 0, 0, 0) else none) else (bif Nat.beq pc 69 then some (.aload_n 0, 70, 0, 0, 0, 0) else none))) else (bif Nat.ble pc 73 then (bif Nat.ble pc 70 then (bif Nat.beq pc 70 then some (.getfield 7, 73, 0, 7, 0, 607) else none) else (bif Nat.beq pc 73 then some (.iload_n 3, 74, 0, 0, 0, 0) else none)) else (bif Nat.ble pc 74 then (bif Nat.beq pc 74 then some (.iconst 1, 75, 0, 0, 0, 0) else none) else (bif Nat.beq pc 75 then some (.iadd, 76, 0, 0, 0, 0) else none)))) else (bif Nat.ble pc 78 then (bif Nat.ble pc 76 then (bif Nat.beq pc 76 then some (.iload_n 2, 77, 0, 0, 0, 0) else none) else (bif Nat.ble pc 77 then (bif Nat.beq pc 77 then some (.iastore, 78, 0, 0, 0, 0) else none) else (bif Nat.beq pc 78 then some (.aload_n 0, 79, 0, 0, 0, 0) else none))) else (bif Nat.ble pc 82 then (bif Nat.ble pc 79 then (bif Nat.beq pc 79 then some (.getfield 7, 82, 0, 7, 0, 607) else none) else (bif Nat.beq pc 82 then some (.iload_n 3, 83, 0, 0, 0, 0) else none)) else (bif Nat.ble pc 83 then (bif Nat.beq pc 83 then some (.iaload, 84, 0, 0, 0, 0) else none) else (bif Nat.beq pc 84 then some (.ireturn, 85, 0, 0, 0, 0) else none)))))))
set_option maxRecDepth 100000 in
def fp_k104 (pc : Nat) : Option FpE := (bif Nat.ble pc 52 then (bif Nat.ble pc 25 then (bif Nat.ble pc 10 then (bif Nat.ble pc 2 then (bif Nat.ble pc 0 then (bif Nat.beq pc 0 then some (.aload_n 0, 1, 0, 0, 0, 0) else none) else (bif Nat.ble pc 1 then (bif Nat.beq pc 1 then some (.iload_n 1, 2, 0, 0, 0, 0) else none) else (bif Nat.beq pc 2 then some (.invokevirtual 62, 5, 7, 85, 2, 655) else none))) else (bif Nat.ble pc 8 then (bif Nat.ble pc 5 then (bif Nat.beq pc 5 then some (.ifCond .ne 5, 8, 10, 0, 0, 0) else none) else (bif Nat.beq pc 8 then some (.iconst (-1), 9, 0, 0, 0, 0) else none)) else (bif Nat.ble pc 9 then (bif Nat.beq pc 9 then some (.ireturn, 10, 0, 0, 0, 0) else none) else (bif Nat.beq pc 10 then some (.iload_n 2, 11, 0, 0, 0, 0) else none)))) else (bif Nat.ble pc 18 then (bif Nat.ble pc 12 then (bif Nat.ble pc 11 then (bif Nat.beq pc 11 then some (.iconst 1, 12, 0, 0, 0, 0) else none) else (bif Nat.beq pc 12 then some (.sipush 199, 15, 0, 0, 0, 0) else none)) else (bif Nat.ble pc 15 then (bif Nat.beq pc 15 then some (.invokestatic 20, 18, 0, 83, 3, 633) else none) else (bif Nat.beq pc 18 then some (.ifCond .ne 6, 21, 24, 0, 0, 0) else none))) else (bif Nat.ble pc 23 then (bif Nat.ble pc 21 then (bif Nat.beq pc 21 then some (.bipush (-2), 23, 0, 0, 0, 0) else none) else (bif Nat.beq pc 23 then some (.ireturn, 24, 0, 0, 0, 0) else none)) else (bif Nat.ble pc 24 then (bif Nat.beq pc 24 then some (.aload_n 0, 25, 0, 0, 0, 0) else none) else (bif Nat.beq pc 25 then some (.getfield 7, 28, 0, 7, 0, 607) else none))))) else (bif Nat.ble pc 40 then (bif Nat.ble pc 33 then (bif Nat.ble pc 30 then (bif Nat.ble pc 28 then (bif Nat.beq pc 28 then some (.bipush 114, 30, 0, 0, 0, 0) else none) else (bif Nat.beq pc 30 then some (.iaload, 31, 0, 0, 0, 0) else none)) else (bif Nat.ble pc 31 then (bif Nat.beq pc 31 then some (.bipush 6, 33, 0, 0, 0, 0) else none) else (bif Nat.beq pc 33 then some (.if_icmp .ne 6, 36, 39, 0, 0, 0) else none))) else (bif Nat.ble pc 38 then (bif Nat.ble pc 36 then (bif Nat.beq pc 36 then some (.bipush (-3), 38, 0, 0, 0, 0) else none) else (bif Nat.beq pc 38 then some (.ireturn, 39, 0, 0, 0, 0) else none)) else (bif Nat.ble pc 39 then (bif Nat.beq pc 39 then some (.iconst 0, 40, 0, 0, 0, 0) else none) else (bif Nat.beq pc 40 then some (.iload_n 1, 41, 0, 0, 0, 0) else none)))) else (bif Nat.ble pc 46 then (bif Nat.ble pc 44 then (bif Nat.ble pc 41 then (bif Nat.beq pc 41 then some (.invokestatic 56, 44, 0, 91, 2, 648) else none) else (bif Nat.beq pc 44 then some (.istore_n 3, 45, 0, 0, 0, 0) else none)) else (bif Nat.ble pc 45 then (bif Nat.beq pc 45 then some (.aload_n 0, 46, 0, 0, 0, 0) else none) else (bif Nat.beq pc 46 then some (.getfield 7, 49, 0, 7, 0, 607) else none))) else (bif Nat.ble pc 50 then (bif Nat.ble pc 49 then (bif Nat.beq pc 49 then some (.iload_n 3, 50, 0, 0, 0, 0) else none) else (bif Nat.beq pc 50 then some (.iaload, 51, 0, 0, 0, 0) else none)) else (bif Nat.ble pc 51 then (bif Nat.beq pc 51 then some (.iload_n 2, 52, 0, 0, 0, 0) else none) else (bif Nat.beq pc 52 then some (.if_icmp .gt 6, 55, 58, 0, 0, 0) else none)))))) else (bif Nat.ble pc 76 then (bif Nat.ble pc 64 then (bif Nat.ble pc 58 then (bif Nat.ble pc 55 then (bif Nat.beq pc 55 then some (.bipush (-4), 57, 0, 0, 0, 0) else none) else (bif Nat.ble pc 57 then (bif Nat.beq pc 57 then some (.ireturn, 58, 0, 0, 0, 0) else none) else (bif Nat.beq pc 58 then some (.aload_n 0, 59, 0, 0, 0, 0) else none))) else (bif Nat.ble pc 60 then (bif Nat.ble pc 59 then (bif Nat.beq pc 59 then some (.iconst 0, 60, 0, 0, 0, 0) else none) else (bif Nat.beq pc 60 then some (.invokevirtual 32, 63, 7, 88, 2, 636) else none)) else (bif Nat.ble pc 63 then (bif Nat.beq pc 63 then some (.aload_n 0, 64, 0, 0, 0, 0) else none) else (bif Nat.beq pc 64 then some (.aload_n 0, 65, 0, 0, 0, 0) else none)))) else (bif Nat.ble pc 70 then (bif Nat.ble pc 68 then (bif Nat.ble pc 65 then (bif Nat.beq pc 65 then some (.getfield 7, 68, 0, 7, 0, 607) else none) else (bif Nat.beq pc 68 then some (.iload_n 3, 69, 0, 0, 0, 0) else none)) else (bif Nat.ble pc 69 then (bif Nat.beq pc 69 then some (.iaload, 70, 0, 0, 0, 0) else none) else (bif Nat.beq pc 70 then some (.iload_n 2, 71, 0, 0, 0, 0) else none))) else (bif Nat.ble pc 72 then (bif Nat.ble pc 71 then (bif Nat.beq pc 71 then some (.isub, 72, 0, 0, 0, 0) else none) else (bif Nat.beq pc 72 then some (.aload_n 0, 73, 0, 0, 0, 0) else none)) else (bif Nat.ble pc 73 then (bif Nat.beq pc 73 then some (.getfield 7, 76, 0, 7, 0, 607) else none) else (bif Nat.beq pc 76 then some (.iload_n 3, 77, 0, 0, 0, 0) else none))))) else (bif Nat.ble pc 88 then (bif Nat.ble pc 80 then (bif Nat.ble pc 78 then (bif Nat.ble pc 77 then (bif Nat.beq pc 77 then some (.iconst 1, 78, 0, 0, 0, 0) else none) else (bif Nat.beq pc 78 then some (.iadd, 79, 0, 0, 0, 0) else none)) else (bif Nat.ble pc 79 then (bif Nat.beq pc 79 then some (.iaload, 80, 0, 0, 0, 0) else none) else (bif Nat.beq pc 80 then some (.invokevirtual 59, 83, 7, 101, 3, 644) else none))) else (bif Nat.ble pc 84 then (bif Nat.ble pc 83 then (bif Nat.beq pc 83 then some (.aload_n 0, 84, 0, 0, 0, 0) else none) else (bif Nat.beq pc 84 then some (.getfield 7, 87, 0, 7, 0, 607) else none)) else (bif Nat.ble pc 87 then (bif Nat.beq pc 87 then some (.iload_n 3, 88, 0, 0, 0, 0) else none) else (bif Nat.beq pc 88 then some (.iload_n 2, 89, 0, 0, 0, 0) else none)))) else (bif Nat.ble pc 94 then (bif Nat.ble pc 90 then (bif Nat.ble pc 89 then (bif Nat.beq pc 89 then some (.iastore, 90, 0, 0, 0, 0) else none) else (bif Nat.beq pc 90 then some (.aload_n 0, 91, 0, 0, 0, 0) else none)) else (bif Nat.ble pc 91 then (bif Nat.beq pc 91 then some (.getfield 7, 94, 0, 7, 0, 607) else none) else (bif Nat.beq pc 94 then some (.bipush 114, 96, 0, 0, 0, 0) else none))) else (bif Nat.ble pc 97 then (bif Nat.ble pc 96 then (bif Nat.beq pc 96 then some (.iaload, 97, 0, 0, 0, 0) else none) else (bif Nat.beq pc 97 then some (.iconst 1, 98, 0, 0, 0, 0) else none)) else (bif Nat.ble pc 98 then (bif Nat.beq pc 98 then some (.isub, 99, 0, 0, 0, 0) else none) else (bif Nat.beq pc 99 then some (.ireturn, 100, 0, 0, 0, 0) else none)))))))
set_option maxRecDepth 100000 in
def fp_k105 (pc : Nat) : Option FpE := (bif Nat.ble pc 74 then (bif Nat.ble pc 37 then (bif Nat.ble pc 18 then (bif Nat.ble pc 8 then (bif Nat.ble pc 1 then (bif Nat.ble pc 0 then (bif Nat.beq pc 0 then some (.aload_n 0, 1, 0, 0, 0, 0) else none) else (bif Nat.beq pc 1 then some (.iload_n 1, 2, 0, 0, 0, 0) else none)) else (bif Nat.ble pc 2 then (bif Nat.beq pc 2 then some (.invokevirtual 66, 5, 7, 84, 2, 667) else none) else (bif Nat.ble pc 5 then (bif Nat.beq pc 5 then some (.ifCond .eq 13, 8, 18, 0, 0, 0) else none) else (bif Nat.beq pc 8 then some (.iload_n 2, 9, 0, 0, 0, 0) else none)))) else (bif Nat.ble pc 10 then (bif Nat.ble pc 9 then (bif Nat.beq pc 9 then some (.iconst 0, 10, 0, 0, 0, 0) else none) else (bif Nat.beq pc 10 then some (.bipush 7, 12, 0, 0, 0, 0) else none)) else (bif Nat.ble pc 12 then (bif Nat.beq pc 12 then some (.invokestatic 20, 15, 0, 83, 3, 633) else none) else (bif Nat.ble pc 15 then (bif Nat.beq pc 15 then some (.ifCond .ne 5, 18, 20, 0, 0, 0) else none) else (bif Nat.beq pc 18 then some (.iconst (-1), 19, 0, 0, 0, 0) else none))))) else (bif Nat.ble pc 24 then (bif Nat.ble pc 20 then (bif Nat.ble pc 19 then (bif Nat.beq pc 19 then some (.ireturn, 20, 0, 0, 0, 0) else none) else (bif Nat.beq pc 20 then some (.iload_n 3, 21, 0, 0, 0, 0) else none)) else (bif Nat.ble pc 21 then (bif Nat.beq pc 21 then some (.iconst 1, 22, 0, 0, 0, 0) else none) else (bif Nat.ble pc 22 then (bif Nat.beq pc 22 then some (.bipush 9, 24, 0, 0, 0, 0) else none) else (bif Nat.beq pc 24 then some (.invokestatic 20, 27, 0, 83, 3, 633) else none)))) else (bif Nat.ble pc 32 then (bif Nat.ble pc 27 then (bif Nat.beq pc 27 then some (.ifCond .ne 6, 30, 33, 0, 0, 0) else none) else (bif Nat.ble pc 30 then (bif Nat.beq pc 30 then some (.bipush (-2), 32, 0, 0, 0, 0) else none) else (bif Nat.beq pc 32 then some (.ireturn, 33, 0, 0, 0, 0) else none))) else (bif Nat.ble pc 33 then (bif Nat.beq pc 33 then some (.aload_n 0, 34, 0, 0, 0, 0) else none) else (bif Nat.ble pc 34 then (bif Nat.beq pc 34 then some (.getfield 7, 37, 0, 7, 0, 607) else none) else (bif Nat.beq pc 37 then some (.iconst 3, 38, 0, 0, 0, 0) else none)))))) else (bif Nat.ble pc 53 then (bif Nat.ble pc 46 then (bif Nat.ble pc 39 then (bif Nat.ble pc 38 then (bif Nat.beq pc 38 then some (.iaload, 39, 0, 0, 0, 0) else none) else (bif Nat.beq pc 39 then some (.bipush 10, 41, 0, 0, 0, 0) else none)) else (bif Nat.ble pc 41 then (bif Nat.beq pc 41 then some (.if_icmp .ne 6, 44, 47, 0, 0, 0) else none) else (bif Nat.ble pc 44 then (bif Nat.beq pc 44 then some (.bipush (-3), 46, 0, 0, 0, 0) else none) else (bif Nat.beq pc 46 then some (.ireturn, 47, 0, 0, 0, 0) else none)))) else (bif Nat.ble pc 48 then (bif Nat.ble pc 47 then (bif Nat.beq pc 47 then some (.aload_n 0, 48, 0, 0, 0, 0) else none) else (bif Nat.beq pc 48 then some (.iconst 0, 49, 0, 0, 0, 0) else none)) else (bif Nat.ble pc 49 then (bif Nat.beq pc 49 then some (.invokevirtual 32, 52, 7, 88, 2, 636) else none) else (bif Nat.ble pc 52 then (bif Nat.beq pc 52 then some (.iconst 0, 53, 0, 0, 0, 0) else none) else (bif Nat.beq pc 53 then some (.aload_n 0, 54, 0, 0, 0, 0) else none))))) else (bif Nat.ble pc 62 then (bif Nat.ble pc 57 then (bif Nat.ble pc 54 then (bif Nat.beq pc 54 then some (.getfield 7, 57, 0, 7, 0, 607) else none) else (bif Nat.beq pc 57 then some (.iconst 3, 58, 0, 0, 0, 0) else none)) else (bif Nat.ble pc 58 then (bif Nat.beq pc 58 then some (.iaload, 59, 0, 0, 0, 0) else none) else (bif Nat.ble pc 59 then (bif Nat.beq pc 59 then some (.invokestatic 36, 62, 0, 90, 2, 671) else none) else (bif Nat.beq pc 62 then some (.istore 4, 64, 0, 0, 0, 0) else none)))) else (bif Nat.ble pc 67 then (bif Nat.ble pc 64 then (bif Nat.beq pc 64 then some (.iconst 0, 65, 0, 0, 0, 0) else none) else (bif Nat.ble pc 65 then (bif Nat.beq pc 65 then some (.istore 5, 67, 0, 0, 0, 0) else none) else (bif Nat.beq pc 67 then some (.iload 5, 69, 0, 0, 0, 0) else none))) else (bif Nat.ble pc 69 then (bif Nat.beq pc 69 then some (.bipush 11, 71, 0, 0, 0, 0) else none) else (bif Nat.ble pc 71 then (bif Nat.beq pc 71 then some (.if_icmp .ge 43, 74, 114, 0, 0, 0) else none) else (bif Nat.beq pc 74 then some (.aload_n 0, 75, 0, 0, 0, 0) else none))))))) else (bif Nat.ble pc 114 then (bif Nat.ble pc 94 then (bif Nat.ble pc 83 then (bif Nat.ble pc 78 then (bif Nat.ble pc 75 then (bif Nat.beq pc 75 then some (.getfield 7, 78, 0, 7, 0, 607) else none) else (bif Nat.beq pc 78 then some (.iload 4, 80, 0, 0, 0, 0) else none)) else (bif Nat.ble pc 80 then (bif Nat.beq pc 80 then some (.iload 5, 82, 0, 0, 0, 0) else none) else (bif Nat.ble pc 82 then (bif Nat.beq pc 82 then some (.iadd, 83, 0, 0, 0, 0) else none) else (bif Nat.beq pc 83 then some (.iload 5, 85, 0, 0, 0, 0) else none)))) else (bif Nat.ble pc 87 then (bif Nat.ble pc 85 then (bif Nat.beq pc 85 then some (.bipush 8, 87, 0, 0, 0, 0) else none) else (bif Nat.beq pc 87 then some (.if_icmp .ge 19, 90, 106, 0, 0, 0) else none)) else (bif Nat.ble pc 90 then (bif Nat.beq pc 90 then some (.aload_n 0, 91, 0, 0, 0, 0) else none) else (bif Nat.ble pc 91 then (bif Nat.beq pc 91 then some (.getfield 7, 94, 0, 7, 0, 607) else none) else (bif Nat.beq pc 94 then some (.iconst 0, 95, 0, 0, 0, 0) else none))))) else (bif Nat.ble pc 102 then (bif Nat.ble pc 96 then (bif Nat.ble pc 95 then (bif Nat.beq pc 95 then some (.iload_n 1, 96, 0, 0, 0, 0) else none) else (bif Nat.beq pc 96 then some (.invokestatic 36, 99, 0, 90, 2, 671) else none)) else (bif Nat.ble pc 99 then (bif Nat.beq pc 99 then some (.iload 5, 101, 0, 0, 0, 0) else none) else (bif Nat.ble pc 101 then (bif Nat.beq pc 101 then some (.iadd, 102, 0, 0, 0, 0) else none) else (bif Nat.beq pc 102 then some (.iaload, 103, 0, 0, 0, 0) else none)))) else (bif Nat.ble pc 107 then (bif Nat.ble pc 103 then (bif Nat.beq pc 103 then some (.goto 4, 106, 107, 0, 0, 0) else none) else (bif Nat.ble pc 106 then (bif Nat.beq pc 106 then some (.iconst 0, 107, 0, 0, 0, 0) else none) else (bif Nat.beq pc 107 then some (.iastore, 108, 0, 0, 0, 0) else none))) else (bif Nat.ble pc 108 then (bif Nat.beq pc 108 then some (.iinc 5 1, 111, 0, 0, 0, 0) else none) else (bif Nat.ble pc 111 then (bif Nat.beq pc 111 then some (.goto (-44), 114, 67, 0, 0, 0) else none) else (bif Nat.beq pc 114 then some (.aload_n 0, 115, 0, 0, 0, 0) else none)))))) else (bif Nat.ble pc 129 then (bif Nat.ble pc 122 then (bif Nat.ble pc 118 then (bif Nat.ble pc 115 then (bif Nat.beq pc 115 then some (.getfield 7, 118, 0, 7, 0, 607) else none) else (bif Nat.beq pc 118 then some (.iload 4, 120, 0, 0, 0, 0) else none)) else (bif Nat.ble pc 120 then (bif Nat.beq pc 120 then some (.iload_n 2, 121, 0, 0, 0, 0) else none) else (bif Nat.ble pc 121 then (bif Nat.beq pc 121 then some (.iadd, 122, 0, 0, 0, 0) else none) else (bif Nat.beq pc 122 then some (.iload_n 3, 123, 0, 0, 0, 0) else none)))) else (bif Nat.ble pc 124 then (bif Nat.ble pc 123 then (bif Nat.beq pc 123 then some (.iastore, 124, 0, 0, 0, 0) else none) else (bif Nat.beq pc 124 then some (.aload_n 0, 125, 0, 0, 0, 0) else none)) else (bif Nat.ble pc 125 then (bif Nat.beq pc 125 then some (.getfield 7, 128, 0, 7, 0, 607) else none) else (bif Nat.ble pc 128 then (bif Nat.beq pc 128 then some (.iconst 3, 129, 0, 0, 0, 0) else none) else (bif Nat.beq pc 129 then some (.dup2, 130, 0, 0, 0, 0) else none))))) else (bif Nat.ble pc 134 then (bif Nat.ble pc 131 then (bif Nat.ble pc 130 then (bif Nat.beq pc 130 then some (.iaload, 131, 0, 0, 0, 0) else none) else (bif Nat.beq pc 131 then some (.iconst 1, 132, 0, 0, 0, 0) else none)) else (bif Nat.ble pc 132 then (bif Nat.beq pc 132 then some (.iadd, 133, 0, 0, 0, 0) else none) else (bif Nat.ble pc 133 then (bif Nat.beq pc 133 then some (.iastore, 134, 0, 0, 0, 0) else none) else (bif Nat.beq pc 134 then some (.aload_n 0, 135, 0, 0, 0, 0) else none)))) else (bif Nat.ble pc 139 then (bif Nat.ble pc 135 then (bif Nat.beq pc 135 then some (.getfield 7, 138, 0, 7, 0, 607) else none) else (bif Nat.ble pc 138 then (bif Nat.beq pc 138 then some (.iconst 3, 139, 0, 0, 0, 0) else none) else (bif Nat.beq pc 139 then some (.iaload, 140, 0, 0, 0, 0) else none))) else (bif Nat.ble pc 140 then (bif Nat.beq pc 140 then some (.iconst 1, 141, 0, 0, 0, 0) else none) else (bif Nat.ble pc 141 then (bif Nat.beq pc 141 then some (.isub, 142, 0, 0, 0, 0) else none) else (bif Nat.beq pc 142 then some (.ireturn, 143, 0, 0, 0, 0) else none))))))))
set_option maxRecDepth 100000 in
def fp_k106 (pc : Nat) : Option FpE := (bif Nat.ble pc 30 then (bif Nat.ble pc 13 then (bif Nat.ble pc 5 then (bif Nat.ble pc 1 then (bif Nat.ble pc 0 then (bif Nat.beq pc 0 then some (.iload_n 1, 1, 0, 0, 0, 0) else none) else (bif Nat.beq pc 1 then some (.aload_n 0, 2, 0, 0, 0, 0) else none)) else (bif Nat.ble pc 2 then (bif Nat.beq pc 2 then some (.getfield 7, 5, 0, 7, 0, 607) else none) else (bif Nat.beq pc 5 then some (.iload_n 1, 6, 0, 0, 0, 0) else none))) else (bif Nat.ble pc 8 then (bif Nat.ble pc 6 then (bif Nat.beq pc 6 then some (.bipush 127, 8, 0, 0, 0, 0) else none) else (bif Nat.beq pc 8 then some (.iadd, 9, 0, 0, 0, 0) else none)) else (bif Nat.ble pc 9 then (bif Nat.beq pc 9 then some (.iaload, 10, 0, 0, 0, 0) else none) else (bif Nat.ble pc 10 then (bif Nat.beq pc 10 then some (.invokestatic 43, 13, 0, 92, 2, 682) else none) else (bif Nat.beq pc 13 then some (.istore 5, 15, 0, 0, 0, 0) else none))))) else (bif Nat.ble pc 22 then (bif Nat.ble pc 16 then (bif Nat.ble pc 15 then (bif Nat.beq pc 15 then some (.aload_n 0, 16, 0, 0, 0, 0) else none) else (bif Nat.beq pc 16 then some (.getfield 7, 19, 0, 7, 0, 607) else none)) else (bif Nat.ble pc 19 then (bif Nat.beq pc 19 then some (.iload 5, 21, 0, 0, 0, 0) else none) else (bif Nat.ble pc 21 then (bif Nat.beq pc 21 then some (.iload_n 2, 22, 0, 0, 0, 0) else none) else (bif Nat.beq pc 22 then some (.iastore, 23, 0, 0, 0, 0) else none)))) else (bif Nat.ble pc 24 then (bif Nat.ble pc 23 then (bif Nat.beq pc 23 then some (.aload_n 0, 24, 0, 0, 0, 0) else none) else (bif Nat.beq pc 24 then some (.getfield 7, 27, 0, 7, 0, 607) else none)) else (bif Nat.ble pc 27 then (bif Nat.beq pc 27 then some (.iload 5, 29, 0, 0, 0, 0) else none) else (bif Nat.ble pc 29 then (bif Nat.beq pc 29 then some (.iconst 1, 30, 0, 0, 0, 0) else none) else (bif Nat.beq pc 30 then some (.iadd, 31, 0, 0, 0, 0) else none)))))) else (bif Nat.ble pc 44 then (bif Nat.ble pc 37 then (bif Nat.ble pc 32 then (bif Nat.ble pc 31 then (bif Nat.beq pc 31 then some (.iload_n 3, 32, 0, 0, 0, 0) else none) else (bif Nat.beq pc 32 then some (.iastore, 33, 0, 0, 0, 0) else none)) else (bif Nat.ble pc 33 then (bif Nat.beq pc 33 then some (.aload_n 0, 34, 0, 0, 0, 0) else none) else (bif Nat.ble pc 34 then (bif Nat.beq pc 34 then some (.getfield 7, 37, 0, 7, 0, 607) else none) else (bif Nat.beq pc 37 then some (.iload 5, 39, 0, 0, 0, 0) else none)))) else (bif Nat.ble pc 40 then (bif Nat.ble pc 39 then (bif Nat.beq pc 39 then some (.iconst 2, 40, 0, 0, 0, 0) else none) else (bif Nat.beq pc 40 then some (.iadd, 41, 0, 0, 0, 0) else none)) else (bif Nat.ble pc 41 then (bif Nat.beq pc 41 then some (.iload 4, 43, 0, 0, 0, 0) else none) else (bif Nat.ble pc 43 then (bif Nat.beq pc 43 then some (.iastore, 44, 0, 0, 0, 0) else none) else (bif Nat.beq pc 44 then some (.aload_n 0, 45, 0, 0, 0, 0) else none))))) else (bif Nat.ble pc 52 then (bif Nat.ble pc 48 then (bif Nat.ble pc 45 then (bif Nat.beq pc 45 then some (.getfield 7, 48, 0, 7, 0, 607) else none) else (bif Nat.beq pc 48 then some (.iload_n 1, 49, 0, 0, 0, 0) else none)) else (bif Nat.ble pc 49 then (bif Nat.beq pc 49 then some (.bipush 127, 51, 0, 0, 0, 0) else none) else (bif Nat.ble pc 51 then (bif Nat.beq pc 51 then some (.iadd, 52, 0, 0, 0, 0) else none) else (bif Nat.beq pc 52 then some (.dup2, 53, 0, 0, 0, 0) else none)))) else (bif Nat.ble pc 54 then (bif Nat.ble pc 53 then (bif Nat.beq pc 53 then some (.iaload, 54, 0, 0, 0, 0) else none) else (bif Nat.beq pc 54 then some (.iconst 1, 55, 0, 0, 0, 0) else none)) else (bif Nat.ble pc 55 then (bif Nat.beq pc 55 then some (.iadd, 56, 0, 0, 0, 0) else none) else (bif Nat.ble pc 56 then (bif Nat.beq pc 56 then some (.iastore, 57, 0, 0, 0, 0) else none) else (bif Nat.beq pc 57 then some (.return_, 58, 0, 0, 0, 0) else none)))))))
set_option maxRecDepth 100000 in
def fp_k107 (pc : Nat) : Option FpE := (bif Nat.ble pc 33 then (bif Nat.ble pc 13 then (bif Nat.ble pc 8 then (bif Nat.ble pc 1 then (bif Nat.ble pc 0 then (bif Nat.beq pc 0 then some (.aload_n 0, 1, 0, 0, 0, 0) else none) else (bif Nat.beq pc 1 then some (.iload_n 1, 2, 0, 0, 0, 0) else none)) else (bif Nat.ble pc 2 then (bif Nat.beq pc 2 then some (.invokevirtual 66, 5, 7, 84, 2, 667) else none) else (bif Nat.ble pc 5 then (bif Nat.beq pc 5 then some (.ifCond .ne 5, 8, 10, 0, 0, 0) else none) else (bif Nat.beq pc 8 then some (.iconst (-1), 9, 0, 0, 0, 0) else none)))) else (bif Nat.ble pc 10 then (bif Nat.ble pc 9 then (bif Nat.beq pc 9 then some (.ireturn, 10, 0, 0, 0, 0) else none) else (bif Nat.beq pc 10 then some (.iload_n 2, 11, 0, 0, 0, 0) else none)) else (bif Nat.ble pc 11 then (bif Nat.beq pc 11 then some (.iconst 0, 12, 0, 0, 0, 0) else none) else (bif Nat.ble pc 12 then (bif Nat.beq pc 12 then some (.iconst 2, 13, 0, 0, 0, 0) else none) else (bif Nat.beq pc 13 then some (.invokestatic 20, 16, 0, 83, 3, 633) else none))))) else (bif Nat.ble pc 23 then (bif Nat.ble pc 19 then (bif Nat.ble pc 16 then (bif Nat.beq pc 16 then some (.ifCond .eq 13, 19, 29, 0, 0, 0) else none) else (bif Nat.beq pc 19 then some (.iload_n 3, 20, 0, 0, 0, 0) else none)) else (bif Nat.ble pc 20 then (bif Nat.beq pc 20 then some (.iconst 1, 21, 0, 0, 0, 0) else none) else (bif Nat.ble pc 21 then (bif Nat.beq pc 21 then some (.bipush 99, 23, 0, 0, 0, 0) else none) else (bif Nat.beq pc 23 then some (.invokestatic 20, 26, 0, 83, 3, 633) else none)))) else (bif Nat.ble pc 29 then (bif Nat.ble pc 26 then (bif Nat.beq pc 26 then some (.ifCond .ne 6, 29, 32, 0, 0, 0) else none) else (bif Nat.beq pc 29 then some (.bipush (-2), 31, 0, 0, 0, 0) else none)) else (bif Nat.ble pc 31 then (bif Nat.beq pc 31 then some (.ireturn, 32, 0, 0, 0, 0) else none) else (bif Nat.ble pc 32 then (bif Nat.beq pc 32 then some (.aload_n 0, 33, 0, 0, 0, 0) else none) else (bif Nat.beq pc 33 then some (.getfield 7, 36, 0, 7, 0, 607) else none)))))) else (bif Nat.ble pc 52 then (bif Nat.ble pc 44 then (bif Nat.ble pc 38 then (bif Nat.ble pc 36 then (bif Nat.beq pc 36 then some (.bipush 127, 38, 0, 0, 0, 0) else none) else (bif Nat.beq pc 38 then some (.iaload, 39, 0, 0, 0, 0) else none)) else (bif Nat.ble pc 39 then (bif Nat.beq pc 39 then some (.bipush 12, 41, 0, 0, 0, 0) else none) else (bif Nat.ble pc 41 then (bif Nat.beq pc 41 then some (.if_icmp .ne 6, 44, 47, 0, 0, 0) else none) else (bif Nat.beq pc 44 then some (.bipush (-3), 46, 0, 0, 0, 0) else none)))) else (bif Nat.ble pc 47 then (bif Nat.ble pc 46 then (bif Nat.beq pc 46 then some (.ireturn, 47, 0, 0, 0, 0) else none) else (bif Nat.beq pc 47 then some (.aload_n 0, 48, 0, 0, 0, 0) else none)) else (bif Nat.ble pc 48 then (bif Nat.beq pc 48 then some (.iconst 0, 49, 0, 0, 0, 0) else none) else (bif Nat.ble pc 49 then (bif Nat.beq pc 49 then some (.invokevirtual 32, 52, 7, 88, 2, 636) else none) else (bif Nat.beq pc 52 then some (.aload_n 0, 53, 0, 0, 0, 0) else none))))) else (bif Nat.ble pc 57 then (bif Nat.ble pc 54 then (bif Nat.ble pc 53 then (bif Nat.beq pc 53 then some (.iconst 0, 54, 0, 0, 0, 0) else none) else (bif Nat.beq pc 54 then some (.iload_n 1, 55, 0, 0, 0, 0) else none)) else (bif Nat.ble pc 55 then (bif Nat.beq pc 55 then some (.iload_n 2, 56, 0, 0, 0, 0) else none) else (bif Nat.ble pc 56 then (bif Nat.beq pc 56 then some (.iload_n 3, 57, 0, 0, 0, 0) else none) else (bif Nat.beq pc 57 then some (.invokevirtual 69, 60, 7, 106, 5, 678) else none)))) else (bif Nat.ble pc 61 then (bif Nat.ble pc 60 then (bif Nat.beq pc 60 then some (.aload_n 0, 61, 0, 0, 0, 0) else none) else (bif Nat.beq pc 61 then some (.getfield 7, 64, 0, 7, 0, 607) else none)) else (bif Nat.ble pc 64 then (bif Nat.beq pc 64 then some (.bipush 127, 66, 0, 0, 0, 0) else none) else (bif Nat.ble pc 66 then (bif Nat.beq pc 66 then some (.iaload, 67, 0, 0, 0, 0) else none) else (bif Nat.beq pc 67 then some (.ireturn, 68, 0, 0, 0, 0) else none)))))))
set_option maxRecDepth 100000 in
def fp_k108 (pc : Nat) : Option FpE := (bif Nat.ble pc 16 then (bif Nat.ble pc 5 then (bif Nat.ble pc 1 then (bif Nat.ble pc 0 then (bif Nat.beq pc 0 then some (.aload_n 0, 1, 0, 0, 0, 0) else none) else (bif Nat.beq pc 1 then some (.getfield 73, 4, 0, 7, 5, 612) else none)) else (bif Nat.ble pc 4 then (bif Nat.beq pc 4 then some (.aload_n 0, 5, 0, 0, 0, 0) else none) else (bif Nat.beq pc 5 then some (.getfield 76, 8, 0, 7, 4, 611) else none))) else (bif Nat.ble pc 11 then (bif Nat.ble pc 8 then (bif Nat.beq pc 8 then some (.if_icmp .ge 25, 11, 33, 0, 0, 0) else none) else (bif Nat.beq pc 11 then some (.aload_n 0, 12, 0, 0, 0, 0) else none)) else (bif Nat.ble pc 12 then (bif Nat.beq pc 12 then some (.getfield 13, 15, 0, 7, 3, 610) else none) else (bif Nat.ble pc 15 then (bif Nat.beq pc 15 then some (.aload_n 0, 16, 0, 0, 0, 0) else none) else (bif Nat.beq pc 16 then some (.getfield 73, 19, 0, 7, 5, 612) else none))))) else (bif Nat.ble pc 23 then (bif Nat.ble pc 20 then (bif Nat.ble pc 19 then (bif Nat.beq pc 19 then some (.caload, 20, 0, 0, 0, 0) else none) else (bif Nat.beq pc 20 then some (.iload_n 1, 21, 0, 0, 0, 0) else none)) else (bif Nat.ble pc 21 then (bif Nat.beq pc 21 then some (.bipush 57, 23, 0, 0, 0, 0) else none) else (bif Nat.beq pc 23 then some (.invokestatic 20, 26, 0, 83, 3, 633) else none))) else (bif Nat.ble pc 29 then (bif Nat.ble pc 26 then (bif Nat.beq pc 26 then some (.ifCond .eq 7, 29, 33, 0, 0, 0) else none) else (bif Nat.beq pc 29 then some (.iconst 1, 30, 0, 0, 0, 0) else none)) else (bif Nat.ble pc 30 then (bif Nat.beq pc 30 then some (.goto 4, 33, 34, 0, 0, 0) else none) else (bif Nat.ble pc 33 then (bif Nat.beq pc 33 then some (.iconst 0, 34, 0, 0, 0, 0) else none) else (bif Nat.beq pc 34 then some (.ireturn, 35, 0, 0, 1, 0) else none))))))
set_option maxRecDepth 100000 in
def fp_k109 (pc : Nat) : Option FpE := (bif Nat.ble pc 118 then (bif Nat.ble pc 54 then (bif Nat.ble pc 25 then (bif Nat.ble pc 11 then (bif Nat.ble pc 3 then (bif Nat.ble pc 1 then (bif Nat.ble pc 0 then (bif Nat.beq pc 0 then some (.iconst 0, 1, 0, 0, 0, 0) else none) else (bif Nat.beq pc 1 then some (.istore_n 1, 2, 0, 0, 0, 0) else none)) else (bif Nat.ble pc 2 then (bif Nat.beq pc 2 then some (.iload_n 1, 3, 0, 0, 0, 0) else none) else (bif Nat.beq pc 3 then some (.bipush 8, 5, 0, 0, 0, 0) else none))) else (bif Nat.ble pc 8 then (bif Nat.ble pc 5 then (bif Nat.beq pc 5 then some (.if_icmp .ge 48, 8, 53, 0, 0, 0) else none) else (bif Nat.beq pc 8 then some (.aload_n 0, 9, 0, 0, 0, 0) else none)) else (bif Nat.ble pc 9 then (bif Nat.beq pc 9 then some (.bipush 49, 11, 0, 0, 0, 0) else none) else (bif Nat.beq pc 11 then some (.invokevirtual 79, 14, 7, 108, 2, 697) else none)))) else (bif Nat.ble pc 19 then (bif Nat.ble pc 17 then (bif Nat.ble pc 14 then (bif Nat.beq pc 14 then some (.ifCond .ne 5, 17, 19, 0, 0, 0) else none) else (bif Nat.beq pc 17 then some (.iconst 0, 18, 0, 0, 0, 0) else none)) else (bif Nat.ble pc 18 then (bif Nat.beq pc 18 then some (.ireturn, 19, 0, 0, 1, 0) else none) else (bif Nat.beq pc 19 then some (.aload_n 0, 20, 0, 0, 0, 0) else none))) else (bif Nat.ble pc 23 then (bif Nat.ble pc 20 then (bif Nat.beq pc 20 then some (.getfield 17, 23, 0, 7, 6, 613) else none) else (bif Nat.beq pc 23 then some (.iload_n 1, 24, 0, 0, 0, 0) else none)) else (bif Nat.ble pc 24 then (bif Nat.beq pc 24 then some (.aload_n 0, 25, 0, 0, 0, 0) else none) else (bif Nat.beq pc 25 then some (.getfield 13, 28, 0, 7, 3, 610) else none))))) else (bif Nat.ble pc 38 then (bif Nat.ble pc 33 then (bif Nat.ble pc 29 then (bif Nat.ble pc 28 then (bif Nat.beq pc 28 then some (.aload_n 0, 29, 0, 0, 0, 0) else none) else (bif Nat.beq pc 29 then some (.getfield 73, 32, 0, 7, 5, 612) else none)) else (bif Nat.ble pc 32 then (bif Nat.beq pc 32 then some (.caload, 33, 0, 0, 0, 0) else none) else (bif Nat.beq pc 33 then some (.bipush 48, 35, 0, 0, 0, 0) else none))) else (bif Nat.ble pc 36 then (bif Nat.ble pc 35 then (bif Nat.beq pc 35 then some (.isub, 36, 0, 0, 0, 0) else none) else (bif Nat.beq pc 36 then some (.iastore, 37, 0, 0, 0, 0) else none)) else (bif Nat.ble pc 37 then (bif Nat.beq pc 37 then some (.aload_n 0, 38, 0, 0, 0, 0) else none) else (bif Nat.beq pc 38 then some (.dup, 39, 0, 0, 0, 0) else none)))) else (bif Nat.ble pc 44 then (bif Nat.ble pc 42 then (bif Nat.ble pc 39 then (bif Nat.beq pc 39 then some (.getfield 73, 42, 0, 7, 5, 612) else none) else (bif Nat.beq pc 42 then some (.iconst 1, 43, 0, 0, 0, 0) else none)) else (bif Nat.ble pc 43 then (bif Nat.beq pc 43 then some (.iadd, 44, 0, 0, 0, 0) else none) else (bif Nat.beq pc 44 then some (.putfield 73, 47, 0, 7, 5, 612) else none))) else (bif Nat.ble pc 50 then (bif Nat.ble pc 47 then (bif Nat.beq pc 47 then some (.iinc 1 1, 50, 0, 0, 0, 0) else none) else (bif Nat.beq pc 50 then some (.goto (-48), 53, 2, 0, 0, 0) else none)) else (bif Nat.ble pc 53 then (bif Nat.beq pc 53 then some (.aload_n 0, 54, 0, 0, 0, 0) else none) else (bif Nat.beq pc 54 then some (.getfield 73, 57, 0, 7, 5, 612) else none)))))) else (bif Nat.ble pc 86 then (bif Nat.ble pc 72 then (bif Nat.ble pc 64 then (bif Nat.ble pc 58 then (bif Nat.ble pc 57 then (bif Nat.beq pc 57 then some (.aload_n 0, 58, 0, 0, 0, 0) else none) else (bif Nat.beq pc 58 then some (.getfield 76, 61, 0, 7, 4, 611) else none)) else (bif Nat.ble pc 61 then (bif Nat.beq pc 61 then some (.if_icmp .ge 15, 64, 76, 0, 0, 0) else none) else (bif Nat.beq pc 64 then some (.aload_n 0, 65, 0, 0, 0, 0) else none))) else (bif Nat.ble pc 68 then (bif Nat.ble pc 65 then (bif Nat.beq pc 65 then some (.getfield 13, 68, 0, 7, 3, 610) else none) else (bif Nat.beq pc 68 then some (.aload_n 0, 69, 0, 0, 0, 0) else none)) else (bif Nat.ble pc 69 then (bif Nat.beq pc 69 then some (.getfield 73, 72, 0, 7, 5, 612) else none) else (bif Nat.beq pc 72 then some (.caload, 73, 0, 0, 0, 0) else none)))) else (bif Nat.ble pc 79 then (bif Nat.ble pc 76 then (bif Nat.ble pc 73 then (bif Nat.beq pc 73 then some (.goto 5, 76, 78, 0, 0, 0) else none) else (bif Nat.beq pc 76 then some (.bipush 32, 78, 0, 0, 0, 0) else none)) else (bif Nat.ble pc 78 then (bif Nat.beq pc 78 then some (.istore_n 1, 79, 0, 0, 0, 0) else none) else (bif Nat.beq pc 79 then some (.iload_n 1, 80, 0, 0, 0, 0) else none))) else (bif Nat.ble pc 82 then (bif Nat.ble pc 80 then (bif Nat.beq pc 80 then some (.bipush 108, 82, 0, 0, 0, 0) else none) else (bif Nat.beq pc 82 then some (.if_icmp .eq 17, 85, 99, 0, 0, 0) else none)) else (bif Nat.ble pc 85 then (bif Nat.beq pc 85 then some (.iload_n 1, 86, 0, 0, 0, 0) else none) else (bif Nat.beq pc 86 then some (.bipush 114, 88, 0, 0, 0, 0) else none))))) else (bif Nat.ble pc 100 then (bif Nat.ble pc 94 then (bif Nat.ble pc 91 then (bif Nat.ble pc 88 then (bif Nat.beq pc 88 then some (.if_icmp .eq 11, 91, 99, 0, 0, 0) else none) else (bif Nat.beq pc 91 then some (.iload_n 1, 92, 0, 0, 0, 0) else none)) else (bif Nat.ble pc 92 then (bif Nat.beq pc 92 then some (.bipush 99, 94, 0, 0, 0, 0) else none) else (bif Nat.beq pc 94 then some (.if_icmp .eq 5, 97, 99, 0, 0, 0) else none))) else (bif Nat.ble pc 98 then (bif Nat.ble pc 97 then (bif Nat.beq pc 97 then some (.iconst 0, 98, 0, 0, 0, 0) else none) else (bif Nat.beq pc 98 then some (.ireturn, 99, 0, 0, 1, 0) else none)) else (bif Nat.ble pc 99 then (bif Nat.beq pc 99 then some (.aload_n 0, 100, 0, 0, 0, 0) else none) else (bif Nat.beq pc 100 then some (.getfield 17, 103, 0, 7, 6, 613) else none)))) else (bif Nat.ble pc 108 then (bif Nat.ble pc 105 then (bif Nat.ble pc 103 then (bif Nat.beq pc 103 then some (.bipush 8, 105, 0, 0, 0, 0) else none) else (bif Nat.beq pc 105 then some (.iload_n 1, 106, 0, 0, 0, 0) else none)) else (bif Nat.ble pc 106 then (bif Nat.beq pc 106 then some (.bipush 108, 108, 0, 0, 0, 0) else none) else (bif Nat.beq pc 108 then some (.if_icmp .ne 7, 111, 115, 0, 0, 0) else none))) else (bif Nat.ble pc 112 then (bif Nat.ble pc 111 then (bif Nat.beq pc 111 then some (.iconst 0, 112, 0, 0, 0, 0) else none) else (bif Nat.beq pc 112 then some (.goto 14, 115, 126, 0, 0, 0) else none)) else (bif Nat.ble pc 115 then (bif Nat.beq pc 115 then some (.iload_n 1, 116, 0, 0, 0, 0) else none) else (bif Nat.ble pc 116 then (bif Nat.beq pc 116 then some (.bipush 114, 118, 0, 0, 0, 0) else none) else (bif Nat.beq pc 118 then some (.if_icmp .ne 7, 121, 125, 0, 0, 0) else none)))))))) else (bif Nat.ble pc 176 then (bif Nat.ble pc 146 then (bif Nat.ble pc 132 then (bif Nat.ble pc 126 then (bif Nat.ble pc 122 then (bif Nat.ble pc 121 then (bif Nat.beq pc 121 then some (.iconst 1, 122, 0, 0, 0, 0) else none) else (bif Nat.beq pc 122 then some (.goto 4, 125, 126, 0, 0, 0) else none)) else (bif Nat.ble pc 125 then (bif Nat.beq pc 125 then some (.iconst 2, 126, 0, 0, 0, 0) else none) else (bif Nat.beq pc 126 then some (.iastore, 127, 0, 0, 0, 0) else none))) else (bif Nat.ble pc 128 then (bif Nat.ble pc 127 then (bif Nat.beq pc 127 then some (.aload_n 0, 128, 0, 0, 0, 0) else none) else (bif Nat.beq pc 128 then some (.dup, 129, 0, 0, 0, 0) else none)) else (bif Nat.ble pc 129 then (bif Nat.beq pc 129 then some (.getfield 73, 132, 0, 7, 5, 612) else none) else (bif Nat.beq pc 132 then some (.iconst 1, 133, 0, 0, 0, 0) else none)))) else (bif Nat.ble pc 138 then (bif Nat.ble pc 134 then (bif Nat.ble pc 133 then (bif Nat.beq pc 133 then some (.iadd, 134, 0, 0, 0, 0) else none) else (bif Nat.beq pc 134 then some (.putfield 73, 137, 0, 7, 5, 612) else none)) else (bif Nat.ble pc 137 then (bif Nat.beq pc 137 then some (.aload_n 0, 138, 0, 0, 0, 0) else none) else (bif Nat.beq pc 138 then some (.getfield 17, 141, 0, 7, 6, 613) else none))) else (bif Nat.ble pc 143 then (bif Nat.ble pc 141 then (bif Nat.beq pc 141 then some (.bipush 9, 143, 0, 0, 0, 0) else none) else (bif Nat.beq pc 143 then some (.bipush 20, 145, 0, 0, 0, 0) else none)) else (bif Nat.ble pc 145 then (bif Nat.beq pc 145 then some (.iastore, 146, 0, 0, 0, 0) else none) else (bif Nat.beq pc 146 then some (.aload_n 0, 147, 0, 0, 0, 0) else none))))) else (bif Nat.ble pc 162 then (bif Nat.ble pc 155 then (bif Nat.ble pc 149 then (bif Nat.ble pc 147 then (bif Nat.beq pc 147 then some (.bipush 49, 149, 0, 0, 0, 0) else none) else (bif Nat.beq pc 149 then some (.invokevirtual 79, 152, 7, 108, 2, 697) else none)) else (bif Nat.ble pc 152 then (bif Nat.beq pc 152 then some (.ifCond .eq 81, 155, 233, 0, 0, 0) else none) else (bif Nat.beq pc 155 then some (.aload_n 0, 156, 0, 0, 0, 0) else none))) else (bif Nat.ble pc 159 then (bif Nat.ble pc 156 then (bif Nat.beq pc 156 then some (.getfield 17, 159, 0, 7, 6, 613) else none) else (bif Nat.beq pc 159 then some (.bipush 9, 161, 0, 0, 0, 0) else none)) else (bif Nat.ble pc 161 then (bif Nat.beq pc 161 then some (.aload_n 0, 162, 0, 0, 0, 0) else none) else (bif Nat.beq pc 162 then some (.getfield 13, 165, 0, 7, 3, 610) else none)))) else (bif Nat.ble pc 170 then (bif Nat.ble pc 166 then (bif Nat.ble pc 165 then (bif Nat.beq pc 165 then some (.aload_n 0, 166, 0, 0, 0, 0) else none) else (bif Nat.beq pc 166 then some (.getfield 73, 169, 0, 7, 5, 612) else none)) else (bif Nat.ble pc 169 then (bif Nat.beq pc 169 then some (.caload, 170, 0, 0, 0, 0) else none) else (bif Nat.beq pc 170 then some (.bipush 48, 172, 0, 0, 0, 0) else none))) else (bif Nat.ble pc 173 then (bif Nat.ble pc 172 then (bif Nat.beq pc 172 then some (.isub, 173, 0, 0, 0, 0) else none) else (bif Nat.beq pc 173 then some (.iastore, 174, 0, 0, 0, 0) else none)) else (bif Nat.ble pc 174 then (bif Nat.beq pc 174 then some (.aload_n 0, 175, 0, 0, 0, 0) else none) else (bif Nat.ble pc 175 then (bif Nat.beq pc 175 then some (.dup, 176, 0, 0, 0, 0) else none) else (bif Nat.beq pc 176 then some (.getfield 73, 179, 0, 7, 5, 612) else none))))))) else (bif Nat.ble pc 208 then (bif Nat.ble pc 193 then (bif Nat.ble pc 184 then (bif Nat.ble pc 180 then (bif Nat.ble pc 179 then (bif Nat.beq pc 179 then some (.iconst 1, 180, 0, 0, 0, 0) else none) else (bif Nat.beq pc 180 then some (.iadd, 181, 0, 0, 0, 0) else none)) else (bif Nat.ble pc 181 then (bif Nat.beq pc 181 then some (.putfield 73, 184, 0, 7, 5, 612) else none) else (bif Nat.beq pc 184 then some (.aload_n 0, 185, 0, 0, 0, 0) else none))) else (bif Nat.ble pc 187 then (bif Nat.ble pc 185 then (bif Nat.beq pc 185 then some (.bipush 48, 187, 0, 0, 0, 0) else none) else (bif Nat.beq pc 187 then some (.invokevirtual 79, 190, 7, 108, 2, 697) else none)) else (bif Nat.ble pc 190 then (bif Nat.beq pc 190 then some (.ifCond .eq 43, 193, 233, 0, 0, 0) else none) else (bif Nat.beq pc 193 then some (.aload_n 0, 194, 0, 0, 0, 0) else none)))) else (bif Nat.ble pc 201 then (bif Nat.ble pc 197 then (bif Nat.ble pc 194 then (bif Nat.beq pc 194 then some (.getfield 17, 197, 0, 7, 6, 613) else none) else (bif Nat.beq pc 197 then some (.bipush 9, 199, 0, 0, 0, 0) else none)) else (bif Nat.ble pc 199 then (bif Nat.beq pc 199 then some (.bipush 10, 201, 0, 0, 0, 0) else none) else (bif Nat.beq pc 201 then some (.aload_n 0, 202, 0, 0, 0, 0) else none))) else (bif Nat.ble pc 205 then (bif Nat.ble pc 202 then (bif Nat.beq pc 202 then some (.getfield 17, 205, 0, 7, 6, 613) else none) else (bif Nat.beq pc 205 then some (.bipush 9, 207, 0, 0, 0, 0) else none)) else (bif Nat.ble pc 207 then (bif Nat.beq pc 207 then some (.iaload, 208, 0, 0, 0, 0) else none) else (bif Nat.beq pc 208 then some (.imul, 209, 0, 0, 0, 0) else none))))) else (bif Nat.ble pc 221 then (bif Nat.ble pc 214 then (bif Nat.ble pc 210 then (bif Nat.ble pc 209 then (bif Nat.beq pc 209 then some (.aload_n 0, 210, 0, 0, 0, 0) else none) else (bif Nat.beq pc 210 then some (.getfield 13, 213, 0, 7, 3, 610) else none)) else (bif Nat.ble pc 213 then (bif Nat.beq pc 213 then some (.aload_n 0, 214, 0, 0, 0, 0) else none) else (bif Nat.beq pc 214 then some (.getfield 73, 217, 0, 7, 5, 612) else none))) else (bif Nat.ble pc 218 then (bif Nat.ble pc 217 then (bif Nat.beq pc 217 then some (.caload, 218, 0, 0, 0, 0) else none) else (bif Nat.beq pc 218 then some (.iadd, 219, 0, 0, 0, 0) else none)) else (bif Nat.ble pc 219 then (bif Nat.beq pc 219 then some (.bipush 48, 221, 0, 0, 0, 0) else none) else (bif Nat.beq pc 221 then some (.isub, 222, 0, 0, 0, 0) else none)))) else (bif Nat.ble pc 225 then (bif Nat.ble pc 223 then (bif Nat.ble pc 222 then (bif Nat.beq pc 222 then some (.iastore, 223, 0, 0, 0, 0) else none) else (bif Nat.beq pc 223 then some (.aload_n 0, 224, 0, 0, 0, 0) else none)) else (bif Nat.ble pc 224 then (bif Nat.beq pc 224 then some (.dup, 225, 0, 0, 0, 0) else none) else (bif Nat.beq pc 225 then some (.getfield 73, 228, 0, 7, 5, 612) else none))) else (bif Nat.ble pc 229 then (bif Nat.ble pc 228 then (bif Nat.beq pc 228 then some (.iconst 1, 229, 0, 0, 0, 0) else none) else (bif Nat.beq pc 229 then some (.iadd, 230, 0, 0, 0, 0) else none)) else (bif Nat.ble pc 230 then (bif Nat.beq pc 230 then some (.putfield 73, 233, 0, 7, 5, 612) else none) else (bif Nat.ble pc 233 then (bif Nat.beq pc 233 then some (.iconst 1, 234, 0, 0, 0, 0) else none) else (bif Nat.beq pc 234 then some (.ireturn, 235, 0, 0, 1, 0) else none)))))))))
set_option maxRecDepth 100000 in
def fp_k110 (pc : Nat) : Option FpE := (bif Nat.ble pc 87 then (bif Nat.ble pc 41 then (bif Nat.ble pc 16 then (bif Nat.ble pc 7 then (bif Nat.ble pc 2 then (bif Nat.ble pc 0 then (bif Nat.beq pc 0 then some (.iconst 0, 1, 0, 0, 0, 0) else none) else (bif Nat.ble pc 1 then (bif Nat.beq pc 1 then some (.istore_n 2, 2, 0, 0, 0, 0) else none) else (bif Nat.beq pc 2 then some (.iload_n 2, 3, 0, 0, 0, 0) else none))) else (bif Nat.ble pc 3 then (bif Nat.beq pc 3 then some (.aload_n 0, 4, 0, 0, 0, 0) else none) else (bif Nat.ble pc 4 then (bif Nat.beq pc 4 then some (.getfield 7, 7, 0, 7, 0, 607) else none) else (bif Nat.beq pc 7 then some (.iload_n 1, 8, 0, 0, 0, 0) else none)))) else (bif Nat.ble pc 10 then (bif Nat.ble pc 8 then (bif Nat.beq pc 8 then some (.iconst 3, 9, 0, 0, 0, 0) else none) else (bif Nat.ble pc 9 then (bif Nat.beq pc 9 then some (.iadd, 10, 0, 0, 0, 0) else none) else (bif Nat.beq pc 10 then some (.iaload, 11, 0, 0, 0, 0) else none))) else (bif Nat.ble pc 14 then (bif Nat.ble pc 11 then (bif Nat.beq pc 11 then some (.if_icmp .ge 66, 14, 77, 0, 0, 0) else none) else (bif Nat.beq pc 14 then some (.iconst 1, 15, 0, 0, 0, 0) else none)) else (bif Nat.ble pc 15 then (bif Nat.beq pc 15 then some (.istore_n 3, 16, 0, 0, 0, 0) else none) else (bif Nat.beq pc 16 then some (.iconst 0, 17, 0, 0, 0, 0) else none))))) else (bif Nat.ble pc 27 then (bif Nat.ble pc 21 then (bif Nat.ble pc 17 then (bif Nat.beq pc 17 then some (.istore 4, 19, 0, 0, 0, 0) else none) else (bif Nat.ble pc 19 then (bif Nat.beq pc 19 then some (.iload 4, 21, 0, 0, 0, 0) else none) else (bif Nat.beq pc 21 then some (.bipush 8, 23, 0, 0, 0, 0) else none))) else (bif Nat.ble pc 23 then (bif Nat.beq pc 23 then some (.if_icmp .ge 42, 26, 65, 0, 0, 0) else none) else (bif Nat.ble pc 26 then (bif Nat.beq pc 26 then some (.iload_n 3, 27, 0, 0, 0, 0) else none) else (bif Nat.beq pc 27 then some (.ifCond .eq 30, 30, 57, 0, 0, 0) else none)))) else (bif Nat.ble pc 34 then (bif Nat.ble pc 30 then (bif Nat.beq pc 30 then some (.aload_n 0, 31, 0, 0, 0, 0) else none) else (bif Nat.ble pc 31 then (bif Nat.beq pc 31 then some (.getfield 7, 34, 0, 7, 0, 607) else none) else (bif Nat.beq pc 34 then some (.iload_n 1, 35, 0, 0, 0, 0) else none))) else (bif Nat.ble pc 36 then (bif Nat.ble pc 35 then (bif Nat.beq pc 35 then some (.iload_n 2, 36, 0, 0, 0, 0) else none) else (bif Nat.beq pc 36 then some (.invokestatic 36, 39, 0, 90, 2, 671) else none)) else (bif Nat.ble pc 39 then (bif Nat.beq pc 39 then some (.iload 4, 41, 0, 0, 0, 0) else none) else (bif Nat.beq pc 41 then some (.iadd, 42, 0, 0, 0, 0) else none)))))) else (bif Nat.ble pc 65 then (bif Nat.ble pc 50 then (bif Nat.ble pc 44 then (bif Nat.ble pc 42 then (bif Nat.beq pc 42 then some (.iaload, 43, 0, 0, 0, 0) else none) else (bif Nat.ble pc 43 then (bif Nat.beq pc 43 then some (.aload_n 0, 44, 0, 0, 0, 0) else none) else (bif Nat.beq pc 44 then some (.getfield 17, 47, 0, 7, 6, 613) else none))) else (bif Nat.ble pc 47 then (bif Nat.beq pc 47 then some (.iload 4, 49, 0, 0, 0, 0) else none) else (bif Nat.ble pc 49 then (bif Nat.beq pc 49 then some (.iaload, 50, 0, 0, 0, 0) else none) else (bif Nat.beq pc 50 then some (.if_icmp .ne 7, 53, 57, 0, 0, 0) else none)))) else (bif Nat.ble pc 57 then (bif Nat.ble pc 53 then (bif Nat.beq pc 53 then some (.iconst 1, 54, 0, 0, 0, 0) else none) else (bif Nat.ble pc 54 then (bif Nat.beq pc 54 then some (.goto 4, 57, 58, 0, 0, 0) else none) else (bif Nat.beq pc 57 then some (.iconst 0, 58, 0, 0, 0, 0) else none))) else (bif Nat.ble pc 59 then (bif Nat.ble pc 58 then (bif Nat.beq pc 58 then some (.istore_n 3, 59, 0, 0, 0, 0) else none) else (bif Nat.beq pc 59 then some (.iinc 4 1, 62, 0, 0, 0, 0) else none)) else (bif Nat.ble pc 62 then (bif Nat.beq pc 62 then some (.goto (-43), 65, 19, 0, 0, 0) else none) else (bif Nat.beq pc 65 then some (.iload_n 3, 66, 0, 0, 0, 0) else none))))) else (bif Nat.ble pc 77 then (bif Nat.ble pc 70 then (bif Nat.ble pc 66 then (bif Nat.beq pc 66 then some (.ifCond .eq 5, 69, 71, 0, 0, 0) else none) else (bif Nat.ble pc 69 then (bif Nat.beq pc 69 then some (.iload_n 2, 70, 0, 0, 0, 0) else none) else (bif Nat.beq pc 70 then some (.ireturn, 71, 0, 0, 0, 0) else none))) else (bif Nat.ble pc 71 then (bif Nat.beq pc 71 then some (.iinc 2 1, 74, 0, 0, 0, 0) else none) else (bif Nat.ble pc 74 then (bif Nat.beq pc 74 then some (.goto (-72), 77, 2, 0, 0, 0) else none) else (bif Nat.beq pc 77 then some (.aload_n 0, 78, 0, 0, 0, 0) else none)))) else (bif Nat.ble pc 82 then (bif Nat.ble pc 78 then (bif Nat.beq pc 78 then some (.getfield 7, 81, 0, 7, 0, 607) else none) else (bif Nat.ble pc 81 then (bif Nat.beq pc 81 then some (.iload_n 1, 82, 0, 0, 0, 0) else none) else (bif Nat.beq pc 82 then some (.iconst 3, 83, 0, 0, 0, 0) else none))) else (bif Nat.ble pc 84 then (bif Nat.ble pc 83 then (bif Nat.beq pc 83 then some (.iadd, 84, 0, 0, 0, 0) else none) else (bif Nat.beq pc 84 then some (.iaload, 85, 0, 0, 0, 0) else none)) else (bif Nat.ble pc 85 then (bif Nat.beq pc 85 then some (.bipush 10, 87, 0, 0, 0, 0) else none) else (bif Nat.beq pc 87 then some (.if_icmp .ne 6, 90, 93, 0, 0, 0) else none))))))) else (bif Nat.ble pc 128 then (bif Nat.ble pc 107 then (bif Nat.ble pc 98 then (bif Nat.ble pc 93 then (bif Nat.ble pc 90 then (bif Nat.beq pc 90 then some (.bipush (-5), 92, 0, 0, 0, 0) else none) else (bif Nat.ble pc 92 then (bif Nat.beq pc 92 then some (.ireturn, 93, 0, 0, 0, 0) else none) else (bif Nat.beq pc 93 then some (.iload_n 1, 94, 0, 0, 0, 0) else none))) else (bif Nat.ble pc 94 then (bif Nat.beq pc 94 then some (.aload_n 0, 95, 0, 0, 0, 0) else none) else (bif Nat.ble pc 95 then (bif Nat.beq pc 95 then some (.getfield 7, 98, 0, 7, 0, 607) else none) else (bif Nat.beq pc 98 then some (.iload_n 1, 99, 0, 0, 0, 0) else none)))) else (bif Nat.ble pc 101 then (bif Nat.ble pc 99 then (bif Nat.beq pc 99 then some (.iconst 3, 100, 0, 0, 0, 0) else none) else (bif Nat.ble pc 100 then (bif Nat.beq pc 100 then some (.iadd, 101, 0, 0, 0, 0) else none) else (bif Nat.beq pc 101 then some (.iaload, 102, 0, 0, 0, 0) else none))) else (bif Nat.ble pc 105 then (bif Nat.ble pc 102 then (bif Nat.beq pc 102 then some (.invokestatic 36, 105, 0, 90, 2, 671) else none) else (bif Nat.beq pc 105 then some (.istore_n 2, 106, 0, 0, 0, 0) else none)) else (bif Nat.ble pc 106 then (bif Nat.beq pc 106 then some (.iconst 0, 107, 0, 0, 0, 0) else none) else (bif Nat.beq pc 107 then some (.istore_n 3, 108, 0, 0, 0, 0) else none))))) else (bif Nat.ble pc 118 then (bif Nat.ble pc 111 then (bif Nat.ble pc 108 then (bif Nat.beq pc 108 then some (.iload_n 3, 109, 0, 0, 0, 0) else none) else (bif Nat.ble pc 109 then (bif Nat.beq pc 109 then some (.bipush 11, 111, 0, 0, 0, 0) else none) else (bif Nat.beq pc 111 then some (.if_icmp .ge 33, 114, 144, 0, 0, 0) else none))) else (bif Nat.ble pc 114 then (bif Nat.beq pc 114 then some (.aload_n 0, 115, 0, 0, 0, 0) else none) else (bif Nat.ble pc 115 then (bif Nat.beq pc 115 then some (.getfield 7, 118, 0, 7, 0, 607) else none) else (bif Nat.beq pc 118 then some (.iload_n 2, 119, 0, 0, 0, 0) else none)))) else (bif Nat.ble pc 121 then (bif Nat.ble pc 119 then (bif Nat.beq pc 119 then some (.iload_n 3, 120, 0, 0, 0, 0) else none) else (bif Nat.ble pc 120 then (bif Nat.beq pc 120 then some (.iadd, 121, 0, 0, 0, 0) else none) else (bif Nat.beq pc 121 then some (.iload_n 3, 122, 0, 0, 0, 0) else none))) else (bif Nat.ble pc 124 then (bif Nat.ble pc 122 then (bif Nat.beq pc 122 then some (.bipush 8, 124, 0, 0, 0, 0) else none) else (bif Nat.beq pc 124 then some (.if_icmp .ge 12, 127, 136, 0, 0, 0) else none)) else (bif Nat.ble pc 127 then (bif Nat.beq pc 127 then some (.aload_n 0, 128, 0, 0, 0, 0) else none) else (bif Nat.beq pc 128 then some (.getfield 17, 131, 0, 7, 6, 613) else none)))))) else (bif Nat.ble pc 151 then (bif Nat.ble pc 138 then (bif Nat.ble pc 133 then (bif Nat.ble pc 131 then (bif Nat.beq pc 131 then some (.iload_n 3, 132, 0, 0, 0, 0) else none) else (bif Nat.ble pc 132 then (bif Nat.beq pc 132 then some (.iaload, 133, 0, 0, 0, 0) else none) else (bif Nat.beq pc 133 then some (.goto 4, 136, 137, 0, 0, 0) else none))) else (bif Nat.ble pc 136 then (bif Nat.beq pc 136 then some (.iconst 0, 137, 0, 0, 0, 0) else none) else (bif Nat.ble pc 137 then (bif Nat.beq pc 137 then some (.iastore, 138, 0, 0, 0, 0) else none) else (bif Nat.beq pc 138 then some (.iinc 3 1, 141, 0, 0, 0, 0) else none)))) else (bif Nat.ble pc 145 then (bif Nat.ble pc 141 then (bif Nat.beq pc 141 then some (.goto (-33), 144, 108, 0, 0, 0) else none) else (bif Nat.ble pc 144 then (bif Nat.beq pc 144 then some (.aload_n 0, 145, 0, 0, 0, 0) else none) else (bif Nat.beq pc 145 then some (.getfield 7, 148, 0, 7, 0, 607) else none))) else (bif Nat.ble pc 149 then (bif Nat.ble pc 148 then (bif Nat.beq pc 148 then some (.iload_n 1, 149, 0, 0, 0, 0) else none) else (bif Nat.beq pc 149 then some (.iconst 3, 150, 0, 0, 0, 0) else none)) else (bif Nat.ble pc 150 then (bif Nat.beq pc 150 then some (.iadd, 151, 0, 0, 0, 0) else none) else (bif Nat.beq pc 151 then some (.dup2, 152, 0, 0, 0, 0) else none))))) else (bif Nat.ble pc 157 then (bif Nat.ble pc 154 then (bif Nat.ble pc 152 then (bif Nat.beq pc 152 then some (.iaload, 153, 0, 0, 0, 0) else none) else (bif Nat.ble pc 153 then (bif Nat.beq pc 153 then some (.iconst 1, 154, 0, 0, 0, 0) else none) else (bif Nat.beq pc 154 then some (.iadd, 155, 0, 0, 0, 0) else none))) else (bif Nat.ble pc 155 then (bif Nat.beq pc 155 then some (.iastore, 156, 0, 0, 0, 0) else none) else (bif Nat.ble pc 156 then (bif Nat.beq pc 156 then some (.aload_n 0, 157, 0, 0, 0, 0) else none) else (bif Nat.beq pc 157 then some (.getfield 7, 160, 0, 7, 0, 607) else none)))) else (bif Nat.ble pc 162 then (bif Nat.ble pc 160 then (bif Nat.beq pc 160 then some (.iload_n 1, 161, 0, 0, 0, 0) else none) else (bif Nat.ble pc 161 then (bif Nat.beq pc 161 then some (.iconst 3, 162, 0, 0, 0, 0) else none) else (bif Nat.beq pc 162 then some (.iadd, 163, 0, 0, 0, 0) else none))) else (bif Nat.ble pc 164 then (bif Nat.ble pc 163 then (bif Nat.beq pc 163 then some (.iaload, 164, 0, 0, 0, 0) else none) else (bif Nat.beq pc 164 then some (.iconst 1, 165, 0, 0, 0, 0) else none)) else (bif Nat.ble pc 165 then (bif Nat.beq pc 165 then some (.isub, 166, 0, 0, 0, 0) else none) else (bif Nat.beq pc 166 then some (.ireturn, 167, 0, 0, 0, 0) else none))))))))
set_option maxRecDepth 100000 in
def fp_k111 (pc : Nat) : Option FpE := (bif Nat.ble pc 29 then (bif Nat.ble pc 13 then (bif Nat.ble pc 5 then (bif Nat.ble pc 1 then (bif Nat.ble pc 0 then (bif Nat.beq pc 0 then some (.aload_n 0, 1, 0, 0, 0, 0) else none) else (bif Nat.beq pc 1 then some (.iconst 0, 2, 0, 0, 0, 0) else none)) else (bif Nat.ble pc 2 then (bif Nat.beq pc 2 then some (.putfield 73, 5, 0, 7, 5, 612) else none) else (bif Nat.beq pc 5 then some (.aload_n 0, 6, 0, 0, 0, 0) else none))) else (bif Nat.ble pc 9 then (bif Nat.ble pc 6 then (bif Nat.beq pc 6 then some (.invokevirtual 83, 9, 7, 109, 1, 693) else none) else (bif Nat.beq pc 9 then some (.ifCond .eq 48, 12, 57, 0, 0, 0) else none)) else (bif Nat.ble pc 12 then (bif Nat.beq pc 12 then some (.aload_n 0, 13, 0, 0, 0, 0) else none) else (bif Nat.beq pc 13 then some (.getfield 73, 16, 0, 7, 5, 612) else none)))) else (bif Nat.ble pc 23 then (bif Nat.ble pc 17 then (bif Nat.ble pc 16 then (bif Nat.beq pc 16 then some (.aload_n 0, 17, 0, 0, 0, 0) else none) else (bif Nat.beq pc 17 then some (.getfield 76, 20, 0, 7, 4, 611) else none)) else (bif Nat.ble pc 20 then (bif Nat.beq pc 20 then some (.if_icmp .ne 5, 23, 25, 0, 0, 0) else none) else (bif Nat.beq pc 23 then some (.iconst (-1), 24, 0, 0, 0, 0) else none))) else (bif Nat.ble pc 25 then (bif Nat.ble pc 24 then (bif Nat.beq pc 24 then some (.ireturn, 25, 0, 0, 0, 0) else none) else (bif Nat.beq pc 25 then some (.aload_n 0, 26, 0, 0, 0, 0) else none)) else (bif Nat.ble pc 26 then (bif Nat.beq pc 26 then some (.getfield 13, 29, 0, 7, 3, 610) else none) else (bif Nat.beq pc 29 then some (.aload_n 0, 30, 0, 0, 0, 0) else none))))) else (bif Nat.ble pc 44 then (bif Nat.ble pc 36 then (bif Nat.ble pc 33 then (bif Nat.ble pc 30 then (bif Nat.beq pc 30 then some (.getfield 73, 33, 0, 7, 5, 612) else none) else (bif Nat.beq pc 33 then some (.caload, 34, 0, 0, 0, 0) else none)) else (bif Nat.ble pc 34 then (bif Nat.beq pc 34 then some (.bipush 59, 36, 0, 0, 0, 0) else none) else (bif Nat.beq pc 36 then some (.if_icmp .eq 8, 39, 44, 0, 0, 0) else none))) else (bif Nat.ble pc 40 then (bif Nat.ble pc 39 then (bif Nat.beq pc 39 then some (.aload_n 0, 40, 0, 0, 0, 0) else none) else (bif Nat.beq pc 40 then some (.getfield 73, 43, 0, 7, 5, 612) else none)) else (bif Nat.ble pc 43 then (bif Nat.beq pc 43 then some (.ireturn, 44, 0, 0, 0, 0) else none) else (bif Nat.beq pc 44 then some (.aload_n 0, 45, 0, 0, 0, 0) else none)))) else (bif Nat.ble pc 50 then (bif Nat.ble pc 46 then (bif Nat.ble pc 45 then (bif Nat.beq pc 45 then some (.dup, 46, 0, 0, 0, 0) else none) else (bif Nat.beq pc 46 then some (.getfield 73, 49, 0, 7, 5, 612) else none)) else (bif Nat.ble pc 49 then (bif Nat.beq pc 49 then some (.iconst 1, 50, 0, 0, 0, 0) else none) else (bif Nat.beq pc 50 then some (.iadd, 51, 0, 0, 0, 0) else none))) else (bif Nat.ble pc 54 then (bif Nat.ble pc 51 then (bif Nat.beq pc 51 then some (.putfield 73, 54, 0, 7, 5, 612) else none) else (bif Nat.beq pc 54 then some (.goto (-49), 57, 5, 0, 0, 0) else none)) else (bif Nat.ble pc 57 then (bif Nat.beq pc 57 then some (.aload_n 0, 58, 0, 0, 0, 0) else none) else (bif Nat.ble pc 58 then (bif Nat.beq pc 58 then some (.getfield 73, 61, 0, 7, 5, 612) else none) else (bif Nat.beq pc 61 then some (.ireturn, 62, 0, 0, 0, 0) else none)))))))
set_option maxRecDepth 100000 in
def fp_k112 (pc : Nat) : Option FpE := (bif Nat.ble pc 59 then (bif Nat.ble pc 26 then (bif Nat.ble pc 12 then (bif Nat.ble pc 5 then (bif Nat.ble pc 1 then (bif Nat.ble pc 0 then (bif Nat.beq pc 0 then some (.aload_n 0, 1, 0, 0, 0, 0) else none) else (bif Nat.beq pc 1 then some (.invokevirtual 87, 4, 7, 111, 1, 689) else none)) else (bif Nat.ble pc 4 then (bif Nat.beq pc 4 then some (.istore_n 1, 5, 0, 0, 0, 0) else none) else (bif Nat.beq pc 5 then some (.iload_n 1, 6, 0, 0, 0, 0) else none))) else (bif Nat.ble pc 9 then (bif Nat.ble pc 6 then (bif Nat.beq pc 6 then some (.ifCond .lt 8, 9, 14, 0, 0, 0) else none) else (bif Nat.beq pc 9 then some (.bipush (-100), 11, 0, 0, 0, 0) else none)) else (bif Nat.ble pc 11 then (bif Nat.beq pc 11 then some (.iload_n 1, 12, 0, 0, 0, 0) else none) else (bif Nat.beq pc 12 then some (.isub, 13, 0, 0, 0, 0) else none)))) else (bif Nat.ble pc 16 then (bif Nat.ble pc 14 then (bif Nat.ble pc 13 then (bif Nat.beq pc 13 then some (.ireturn, 14, 0, 0, 0, 0) else none) else (bif Nat.beq pc 14 then some (.aload_n 0, 15, 0, 0, 0, 0) else none)) else (bif Nat.ble pc 15 then (bif Nat.beq pc 15 then some (.iconst 0, 16, 0, 0, 0, 0) else none) else (bif Nat.beq pc 16 then some (.bipush 6, 18, 0, 0, 0, 0) else none))) else (bif Nat.ble pc 21 then (bif Nat.ble pc 18 then (bif Nat.beq pc 18 then some (.invokevirtual 28, 21, 7, 87, 3, 640) else none) else (bif Nat.beq pc 21 then some (.sipush 1020, 24, 0, 0, 0, 0) else none)) else (bif Nat.ble pc 24 then (bif Nat.beq pc 24 then some (.istore_n 2, 25, 0, 0, 0, 0) else none) else (bif Nat.ble pc 25 then (bif Nat.beq pc 25 then some (.aload_n 0, 26, 0, 0, 0, 0) else none) else (bif Nat.beq pc 26 then some (.iconst 0, 27, 0, 0, 0, 0) else none)))))) else (bif Nat.ble pc 42 then (bif Nat.ble pc 34 then (bif Nat.ble pc 30 then (bif Nat.ble pc 27 then (bif Nat.beq pc 27 then some (.putfield 73, 30, 0, 7, 5, 612) else none) else (bif Nat.beq pc 30 then some (.aload_n 0, 31, 0, 0, 0, 0) else none)) else (bif Nat.ble pc 31 then (bif Nat.beq pc 31 then some (.getfield 73, 34, 0, 7, 5, 612) else none) else (bif Nat.beq pc 34 then some (.aload_n 0, 35, 0, 0, 0, 0) else none))) else (bif Nat.ble pc 38 then (bif Nat.ble pc 35 then (bif Nat.beq pc 35 then some (.getfield 76, 38, 0, 7, 4, 611) else none) else (bif Nat.beq pc 38 then some (.if_icmp .ge 70, 41, 108, 0, 0, 0) else none)) else (bif Nat.ble pc 41 then (bif Nat.beq pc 41 then some (.aload_n 0, 42, 0, 0, 0, 0) else none) else (bif Nat.beq pc 42 then some (.invokevirtual 83, 45, 7, 109, 1, 693) else none)))) else (bif Nat.ble pc 50 then (bif Nat.ble pc 48 then (bif Nat.ble pc 45 then (bif Nat.beq pc 45 then some (.ifCond .eq 63, 48, 108, 0, 0, 0) else none) else (bif Nat.beq pc 48 then some (.aload_n 0, 49, 0, 0, 0, 0) else none)) else (bif Nat.ble pc 49 then (bif Nat.beq pc 49 then some (.iload_n 2, 50, 0, 0, 0, 0) else none) else (bif Nat.beq pc 50 then some (.invokevirtual 91, 53, 7, 110, 2, 701) else none))) else (bif Nat.ble pc 54 then (bif Nat.ble pc 53 then (bif Nat.beq pc 53 then some (.istore_n 3, 54, 0, 0, 0, 0) else none) else (bif Nat.beq pc 54 then some (.iload_n 3, 55, 0, 0, 0, 0) else none)) else (bif Nat.ble pc 55 then (bif Nat.beq pc 55 then some (.ifCond .lt 17, 58, 72, 0, 0, 0) else none) else (bif Nat.ble pc 58 then (bif Nat.beq pc 58 then some (.aload_n 0, 59, 0, 0, 0, 0) else none) else (bif Nat.beq pc 59 then some (.getfield 7, 62, 0, 7, 0, 607) else none))))))) else (bif Nat.ble pc 86 then (bif Nat.ble pc 74 then (bif Nat.ble pc 66 then (bif Nat.ble pc 63 then (bif Nat.ble pc 62 then (bif Nat.beq pc 62 then some (.iload_n 2, 63, 0, 0, 0, 0) else none) else (bif Nat.beq pc 63 then some (.bipush 127, 65, 0, 0, 0, 0) else none)) else (bif Nat.ble pc 65 then (bif Nat.beq pc 65 then some (.iadd, 66, 0, 0, 0, 0) else none) else (bif Nat.beq pc 66 then some (.iaload, 67, 0, 0, 0, 0) else none))) else (bif Nat.ble pc 69 then (bif Nat.ble pc 67 then (bif Nat.beq pc 67 then some (.bipush 12, 69, 0, 0, 0, 0) else none) else (bif Nat.beq pc 69 then some (.if_icmp .ne 6, 72, 75, 0, 0, 0) else none)) else (bif Nat.ble pc 72 then (bif Nat.beq pc 72 then some (.bipush (-3), 74, 0, 0, 0, 0) else none) else (bif Nat.beq pc 74 then some (.ireturn, 75, 0, 0, 0, 0) else none)))) else (bif Nat.ble pc 78 then (bif Nat.ble pc 76 then (bif Nat.ble pc 75 then (bif Nat.beq pc 75 then some (.aload_n 0, 76, 0, 0, 0, 0) else none) else (bif Nat.beq pc 76 then some (.iload_n 2, 77, 0, 0, 0, 0) else none)) else (bif Nat.ble pc 77 then (bif Nat.beq pc 77 then some (.iload_n 3, 78, 0, 0, 0, 0) else none) else (bif Nat.beq pc 78 then some (.aload_n 0, 79, 0, 0, 0, 0) else none))) else (bif Nat.ble pc 82 then (bif Nat.ble pc 79 then (bif Nat.beq pc 79 then some (.getfield 17, 82, 0, 7, 6, 613) else none) else (bif Nat.beq pc 82 then some (.bipush 8, 84, 0, 0, 0, 0) else none)) else (bif Nat.ble pc 84 then (bif Nat.beq pc 84 then some (.iaload, 85, 0, 0, 0, 0) else none) else (bif Nat.ble pc 85 then (bif Nat.beq pc 85 then some (.aload_n 0, 86, 0, 0, 0, 0) else none) else (bif Nat.beq pc 86 then some (.getfield 17, 89, 0, 7, 6, 613) else none)))))) else (bif Nat.ble pc 101 then (bif Nat.ble pc 95 then (bif Nat.ble pc 91 then (bif Nat.ble pc 89 then (bif Nat.beq pc 89 then some (.bipush 9, 91, 0, 0, 0, 0) else none) else (bif Nat.beq pc 91 then some (.iaload, 92, 0, 0, 0, 0) else none)) else (bif Nat.ble pc 92 then (bif Nat.beq pc 92 then some (.invokevirtual 69, 95, 7, 106, 5, 678) else none) else (bif Nat.beq pc 95 then some (.aload_n 0, 96, 0, 0, 0, 0) else none))) else (bif Nat.ble pc 97 then (bif Nat.ble pc 96 then (bif Nat.beq pc 96 then some (.dup, 97, 0, 0, 0, 0) else none) else (bif Nat.beq pc 97 then some (.getfield 73, 100, 0, 7, 5, 612) else none)) else (bif Nat.ble pc 100 then (bif Nat.beq pc 100 then some (.iconst 1, 101, 0, 0, 0, 0) else none) else (bif Nat.beq pc 101 then some (.iadd, 102, 0, 0, 0, 0) else none)))) else (bif Nat.ble pc 109 then (bif Nat.ble pc 105 then (bif Nat.ble pc 102 then (bif Nat.beq pc 102 then some (.putfield 73, 105, 0, 7, 5, 612) else none) else (bif Nat.beq pc 105 then some (.goto (-75), 108, 30, 0, 0, 0) else none)) else (bif Nat.ble pc 108 then (bif Nat.beq pc 108 then some (.aload_n 0, 109, 0, 0, 0, 0) else none) else (bif Nat.beq pc 109 then some (.invokevirtual 95, 112, 7, 89, 1, 705) else none))) else (bif Nat.ble pc 113 then (bif Nat.ble pc 112 then (bif Nat.beq pc 112 then some (.aload_n 0, 113, 0, 0, 0, 0) else none) else (bif Nat.beq pc 113 then some (.getfield 7, 116, 0, 7, 0, 607) else none)) else (bif Nat.ble pc 116 then (bif Nat.beq pc 116 then some (.bipush 127, 118, 0, 0, 0, 0) else none) else (bif Nat.ble pc 118 then (bif Nat.beq pc 118 then some (.iaload, 119, 0, 0, 0, 0) else none) else (bif Nat.beq pc 119 then some (.ireturn, 120, 0, 0, 0, 0) else none))))))))
set_option maxRecDepth 100000 in
def fp_k113 (pc : Nat) : Option FpE := (bif Nat.ble pc 18 then (bif Nat.ble pc 9 then (bif Nat.ble pc 2 then (bif Nat.ble pc 0 then (bif Nat.beq pc 0 then some (.aload_n 0, 1, 0, 0, 0, 0) else none) else (bif Nat.ble pc 1 then (bif Nat.beq pc 1 then some (.iload_n 1, 2, 0, 0, 0, 0) else none) else (bif Nat.beq pc 2 then some (.invokevirtual 98, 5, 7, 86, 2, 713) else none))) else (bif Nat.ble pc 5 then (bif Nat.beq pc 5 then some (.ifCond .ne 5, 8, 10, 0, 0, 0) else none) else (bif Nat.ble pc 8 then (bif Nat.beq pc 8 then some (.iconst (-1), 9, 0, 0, 0, 0) else none) else (bif Nat.beq pc 9 then some (.ireturn, 10, 0, 0, 0, 0) else none)))) else (bif Nat.ble pc 12 then (bif Nat.ble pc 10 then (bif Nat.beq pc 10 then some (.aload_n 0, 11, 0, 0, 0, 0) else none) else (bif Nat.ble pc 11 then (bif Nat.beq pc 11 then some (.iconst 0, 12, 0, 0, 0, 0) else none) else (bif Nat.beq pc 12 then some (.bipush 6, 14, 0, 0, 0, 0) else none))) else (bif Nat.ble pc 14 then (bif Nat.beq pc 14 then some (.invokevirtual 28, 17, 7, 87, 3, 640) else none) else (bif Nat.ble pc 17 then (bif Nat.beq pc 17 then some (.aload_n 0, 18, 0, 0, 0, 0) else none) else (bif Nat.beq pc 18 then some (.sipush 1020, 21, 0, 0, 0, 0) else none))))) else (bif Nat.ble pc 31 then (bif Nat.ble pc 25 then (bif Nat.ble pc 21 then (bif Nat.beq pc 21 then some (.iload_n 1, 22, 0, 0, 0, 0) else none) else (bif Nat.ble pc 22 then (bif Nat.beq pc 22 then some (.invokevirtual 52, 25, 7, 98, 3, 717) else none) else (bif Nat.beq pc 25 then some (.ifCond .ne 6, 28, 31, 0, 0, 0) else none))) else (bif Nat.ble pc 28 then (bif Nat.beq pc 28 then some (.bipush (-4), 30, 0, 0, 0, 0) else none) else (bif Nat.ble pc 30 then (bif Nat.beq pc 30 then some (.ireturn, 31, 0, 0, 0, 0) else none) else (bif Nat.beq pc 31 then some (.aload_n 0, 32, 0, 0, 0, 0) else none)))) else (bif Nat.ble pc 36 then (bif Nat.ble pc 32 then (bif Nat.beq pc 32 then some (.invokevirtual 95, 35, 7, 89, 1, 705) else none) else (bif Nat.ble pc 35 then (bif Nat.beq pc 35 then some (.aload_n 0, 36, 0, 0, 0, 0) else none) else (bif Nat.beq pc 36 then some (.getfield 7, 39, 0, 7, 0, 607) else none))) else (bif Nat.ble pc 39 then (bif Nat.beq pc 39 then some (.sipush 168, 42, 0, 0, 0, 0) else none) else (bif Nat.ble pc 42 then (bif Nat.beq pc 42 then some (.iaload, 43, 0, 0, 0, 0) else none) else (bif Nat.beq pc 43 then some (.ireturn, 44, 0, 0, 0, 0) else none))))))
set_option maxRecDepth 100000 in
def fp_k114 (pc : Nat) : Option FpE := (bif Nat.ble pc 14 then (bif Nat.ble pc 4 then (bif Nat.ble pc 1 then (bif Nat.ble pc 0 then (bif Nat.beq pc 0 then some (.aload_n 0, 1, 0, 0, 0, 0) else none) else (bif Nat.beq pc 1 then some (.iconst 0, 2, 0, 0, 0, 0) else none)) else (bif Nat.ble pc 2 then (bif Nat.beq pc 2 then some (.bipush 6, 4, 0, 0, 0, 0) else none) else (bif Nat.beq pc 4 then some (.invokevirtual 28, 7, 7, 87, 3, 640) else none))) else (bif Nat.ble pc 8 then (bif Nat.ble pc 7 then (bif Nat.beq pc 7 then some (.aload_n 0, 8, 0, 0, 0, 0) else none) else (bif Nat.beq pc 8 then some (.sipush 1020, 11, 0, 0, 0, 0) else none)) else (bif Nat.ble pc 11 then (bif Nat.beq pc 11 then some (.invokevirtual 101, 14, 7, 99, 2, 737) else none) else (bif Nat.beq pc 14 then some (.istore_n 1, 15, 0, 0, 0, 0) else none)))) else (bif Nat.ble pc 21 then (bif Nat.ble pc 16 then (bif Nat.ble pc 15 then (bif Nat.beq pc 15 then some (.iload_n 1, 16, 0, 0, 0, 0) else none) else (bif Nat.beq pc 16 then some (.ifCond .ne 6, 19, 22, 0, 0, 0) else none)) else (bif Nat.ble pc 19 then (bif Nat.beq pc 19 then some (.bipush (-5), 21, 0, 0, 0, 0) else none) else (bif Nat.beq pc 21 then some (.ireturn, 22, 0, 0, 0, 0) else none))) else (bif Nat.ble pc 23 then (bif Nat.ble pc 22 then (bif Nat.beq pc 22 then some (.aload_n 0, 23, 0, 0, 0, 0) else none) else (bif Nat.beq pc 23 then some (.invokevirtual 95, 26, 7, 89, 1, 705) else none)) else (bif Nat.ble pc 26 then (bif Nat.beq pc 26 then some (.iload_n 1, 27, 0, 0, 0, 0) else none) else (bif Nat.beq pc 27 then some (.ireturn, 28, 0, 0, 0, 0) else none)))))
set_option maxRecDepth 100000 in
def fp_k115 (pc : Nat) : Option FpE := (bif Nat.ble pc 13 then (bif Nat.ble pc 4 then (bif Nat.ble pc 1 then (bif Nat.ble pc 0 then (bif Nat.beq pc 0 then some (.iconst 1, 1, 0, 0, 0, 0) else none) else (bif Nat.beq pc 1 then some (.iload_n 2, 2, 0, 0, 0, 0) else none)) else (bif Nat.ble pc 2 then (bif Nat.beq pc 2 then some (.ishl, 3, 0, 0, 0, 0) else none) else (bif Nat.ble pc 3 then (bif Nat.beq pc 3 then some (.aload_n 0, 4, 0, 0, 0, 0) else none) else (bif Nat.beq pc 4 then some (.iload_n 1, 5, 0, 0, 0, 0) else none)))) else (bif Nat.ble pc 8 then (bif Nat.ble pc 5 then (bif Nat.beq pc 5 then some (.invokevirtual 104, 8, 7, 95, 2, 753) else none) else (bif Nat.beq pc 8 then some (.aload_n 0, 9, 0, 0, 0, 0) else none)) else (bif Nat.ble pc 9 then (bif Nat.beq pc 9 then some (.getfield 7, 12, 0, 7, 0, 607) else none) else (bif Nat.ble pc 12 then (bif Nat.beq pc 12 then some (.iconst 0, 13, 0, 0, 0, 0) else none) else (bif Nat.beq pc 13 then some (.iaload, 14, 0, 0, 0, 0) else none))))) else (bif Nat.ble pc 20 then (bif Nat.ble pc 15 then (bif Nat.ble pc 14 then (bif Nat.beq pc 14 then some (.iadd, 15, 0, 0, 0, 0) else none) else (bif Nat.beq pc 15 then some (.iload_n 2, 16, 0, 0, 0, 0) else none)) else (bif Nat.ble pc 16 then (bif Nat.beq pc 16 then some (.aload_n 0, 17, 0, 0, 0, 0) else none) else (bif Nat.ble pc 17 then (bif Nat.beq pc 17 then some (.getfield 7, 20, 0, 7, 0, 607) else none) else (bif Nat.beq pc 20 then some (.iconst 1, 21, 0, 0, 0, 0) else none)))) else (bif Nat.ble pc 22 then (bif Nat.ble pc 21 then (bif Nat.beq pc 21 then some (.iaload, 22, 0, 0, 0, 0) else none) else (bif Nat.beq pc 22 then some (.imul, 23, 0, 0, 0, 0) else none)) else (bif Nat.ble pc 23 then (bif Nat.beq pc 23 then some (.iadd, 24, 0, 0, 0, 0) else none) else (bif Nat.ble pc 24 then (bif Nat.beq pc 24 then some (.imul, 25, 0, 0, 0, 0) else none) else (bif Nat.beq pc 25 then some (.ireturn, 26, 0, 0, 0, 0) else none))))))
set_option maxRecDepth 100000 in
def fp_k116 (pc : Nat) : Option FpE := (bif Nat.ble pc 24 then (bif Nat.ble pc 10 then (bif Nat.ble pc 5 then (bif Nat.ble pc 1 then (bif Nat.ble pc 0 then (bif Nat.beq pc 0 then some (.iconst 0, 1, 0, 0, 0, 0) else none) else (bif Nat.beq pc 1 then some (.iload_n 2, 2, 0, 0, 0, 0) else none)) else (bif Nat.ble pc 2 then (bif Nat.beq pc 2 then some (.invokestatic 56, 5, 0, 91, 2, 648) else none) else (bif Nat.beq pc 5 then some (.istore 4, 7, 0, 0, 0, 0) else none))) else (bif Nat.ble pc 8 then (bif Nat.ble pc 7 then (bif Nat.beq pc 7 then some (.iconst 1, 8, 0, 0, 0, 0) else none) else (bif Nat.beq pc 8 then some (.iload_n 3, 9, 0, 0, 0, 0) else none)) else (bif Nat.ble pc 9 then (bif Nat.beq pc 9 then some (.ishl, 10, 0, 0, 0, 0) else none) else (bif Nat.beq pc 10 then some (.aload_n 0, 11, 0, 0, 0, 0) else none)))) else (bif Nat.ble pc 17 then (bif Nat.ble pc 14 then (bif Nat.ble pc 11 then (bif Nat.beq pc 11 then some (.getfield 7, 14, 0, 7, 0, 607) else none) else (bif Nat.beq pc 14 then some (.iload 4, 16, 0, 0, 0, 0) else none)) else (bif Nat.ble pc 16 then (bif Nat.beq pc 16 then some (.iconst 1, 17, 0, 0, 0, 0) else none) else (bif Nat.beq pc 17 then some (.iadd, 18, 0, 0, 0, 0) else none))) else (bif Nat.ble pc 19 then (bif Nat.ble pc 18 then (bif Nat.beq pc 18 then some (.iaload, 19, 0, 0, 0, 0) else none) else (bif Nat.beq pc 19 then some (.imul, 20, 0, 0, 0, 0) else none)) else (bif Nat.ble pc 20 then (bif Nat.beq pc 20 then some (.aload_n 0, 21, 0, 0, 0, 0) else none) else (bif Nat.ble pc 21 then (bif Nat.beq pc 21 then some (.getfield 7, 24, 0, 7, 0, 607) else none) else (bif Nat.beq pc 24 then some (.iconst 2, 25, 0, 0, 0, 0) else none)))))) else (bif Nat.ble pc 39 then (bif Nat.ble pc 30 then (bif Nat.ble pc 26 then (bif Nat.ble pc 25 then (bif Nat.beq pc 25 then some (.iaload, 26, 0, 0, 0, 0) else none) else (bif Nat.beq pc 26 then some (.if_icmp .le 7, 29, 33, 0, 0, 0) else none)) else (bif Nat.ble pc 29 then (bif Nat.beq pc 29 then some (.iconst 1, 30, 0, 0, 0, 0) else none) else (bif Nat.beq pc 30 then some (.goto 24, 33, 54, 0, 0, 0) else none))) else (bif Nat.ble pc 34 then (bif Nat.ble pc 33 then (bif Nat.beq pc 33 then some (.aload_n 0, 34, 0, 0, 0, 0) else none) else (bif Nat.beq pc 34 then some (.getfield 7, 37, 0, 7, 0, 607) else none)) else (bif Nat.ble pc 37 then (bif Nat.beq pc 37 then some (.iload 4, 39, 0, 0, 0, 0) else none) else (bif Nat.beq pc 39 then some (.iaload, 40, 0, 0, 0, 0) else none)))) else (bif Nat.ble pc 43 then (bif Nat.ble pc 41 then (bif Nat.ble pc 40 then (bif Nat.beq pc 40 then some (.aload_n 0, 41, 0, 0, 0, 0) else none) else (bif Nat.beq pc 41 then some (.iload_n 1, 42, 0, 0, 0, 0) else none)) else (bif Nat.ble pc 42 then (bif Nat.beq pc 42 then some (.iload_n 3, 43, 0, 0, 0, 0) else none) else (bif Nat.beq pc 43 then some (.invokevirtual 107, 46, 7, 115, 3, 749) else none))) else (bif Nat.ble pc 49 then (bif Nat.ble pc 46 then (bif Nat.beq pc 46 then some (.if_icmp .ge 7, 49, 53, 0, 0, 0) else none) else (bif Nat.beq pc 49 then some (.iconst 2, 50, 0, 0, 0, 0) else none)) else (bif Nat.ble pc 50 then (bif Nat.beq pc 50 then some (.goto 4, 53, 54, 0, 0, 0) else none) else (bif Nat.ble pc 53 then (bif Nat.beq pc 53 then some (.iconst 0, 54, 0, 0, 0, 0) else none) else (bif Nat.beq pc 54 then some (.ireturn, 55, 0, 0, 0, 0) else none)))))))
set_option maxRecDepth 100000 in
def fp_k117 (pc : Nat) : Option FpE := (bif Nat.ble pc 93 then (bif Nat.ble pc 45 then (bif Nat.ble pc 23 then (bif Nat.ble pc 8 then (bif Nat.ble pc 3 then (bif Nat.ble pc 0 then (bif Nat.beq pc 0 then some (.iconst 1, 1, 0, 0, 0, 0) else none) else (bif Nat.ble pc 1 then (bif Nat.beq pc 1 then some (.iload 4, 3, 0, 0, 0, 0) else none) else (bif Nat.beq pc 3 then some (.ishl, 4, 0, 0, 0, 0) else none))) else (bif Nat.ble pc 6 then (bif Nat.ble pc 4 then (bif Nat.beq pc 4 then some (.istore 5, 6, 0, 0, 0, 0) else none) else (bif Nat.beq pc 6 then some (.iload_n 1, 7, 0, 0, 0, 0) else none)) else (bif Nat.ble pc 7 then (bif Nat.beq pc 7 then some (.iload_n 2, 8, 0, 0, 0, 0) else none) else (bif Nat.beq pc 8 then some (.invokestatic 36, 11, 0, 90, 2, 671) else none)))) else (bif Nat.ble pc 17 then (bif Nat.ble pc 13 then (bif Nat.ble pc 11 then (bif Nat.beq pc 11 then some (.istore 6, 13, 0, 0, 0, 0) else none) else (bif Nat.beq pc 13 then some (.aload_n 0, 14, 0, 0, 0, 0) else none)) else (bif Nat.ble pc 14 then (bif Nat.beq pc 14 then some (.getfield 7, 17, 0, 7, 0, 607) else none) else (bif Nat.beq pc 17 then some (.iload 6, 19, 0, 0, 0, 0) else none))) else (bif Nat.ble pc 21 then (bif Nat.ble pc 19 then (bif Nat.beq pc 19 then some (.bipush 8, 21, 0, 0, 0, 0) else none) else (bif Nat.beq pc 21 then some (.iadd, 22, 0, 0, 0, 0) else none)) else (bif Nat.ble pc 22 then (bif Nat.beq pc 22 then some (.dup2, 23, 0, 0, 0, 0) else none) else (bif Nat.beq pc 23 then some (.iaload, 24, 0, 0, 0, 0) else none))))) else (bif Nat.ble pc 32 then (bif Nat.ble pc 28 then (bif Nat.ble pc 26 then (bif Nat.ble pc 24 then (bif Nat.beq pc 24 then some (.iload 5, 26, 0, 0, 0, 0) else none) else (bif Nat.beq pc 26 then some (.iconst 1, 27, 0, 0, 0, 0) else none)) else (bif Nat.ble pc 27 then (bif Nat.beq pc 27 then some (.iadd, 28, 0, 0, 0, 0) else none) else (bif Nat.beq pc 28 then some (.iconst 2, 29, 0, 0, 0, 0) else none))) else (bif Nat.ble pc 30 then (bif Nat.ble pc 29 then (bif Nat.beq pc 29 then some (.idiv, 30, 0, 0, 0, 0) else none) else (bif Nat.beq pc 30 then some (.iadd, 31, 0, 0, 0, 0) else none)) else (bif Nat.ble pc 31 then (bif Nat.beq pc 31 then some (.iastore, 32, 0, 0, 0, 0) else none) else (bif Nat.beq pc 32 then some (.aload_n 0, 33, 0, 0, 0, 0) else none)))) else (bif Nat.ble pc 40 then (bif Nat.ble pc 36 then (bif Nat.ble pc 33 then (bif Nat.beq pc 33 then some (.getfield 7, 36, 0, 7, 0, 607) else none) else (bif Nat.beq pc 36 then some (.iload 6, 38, 0, 0, 0, 0) else none)) else (bif Nat.ble pc 38 then (bif Nat.beq pc 38 then some (.bipush 9, 40, 0, 0, 0, 0) else none) else (bif Nat.beq pc 40 then some (.iadd, 41, 0, 0, 0, 0) else none))) else (bif Nat.ble pc 42 then (bif Nat.ble pc 41 then (bif Nat.beq pc 41 then some (.dup2, 42, 0, 0, 0, 0) else none) else (bif Nat.beq pc 42 then some (.iaload, 43, 0, 0, 0, 0) else none)) else (bif Nat.ble pc 43 then (bif Nat.beq pc 43 then some (.iload 5, 45, 0, 0, 0, 0) else none) else (bif Nat.beq pc 45 then some (.iconst 2, 46, 0, 0, 0, 0) else none)))))) else (bif Nat.ble pc 68 then (bif Nat.ble pc 57 then (bif Nat.ble pc 49 then (bif Nat.ble pc 47 then (bif Nat.ble pc 46 then (bif Nat.beq pc 46 then some (.idiv, 47, 0, 0, 0, 0) else none) else (bif Nat.beq pc 47 then some (.iadd, 48, 0, 0, 0, 0) else none)) else (bif Nat.ble pc 48 then (bif Nat.beq pc 48 then some (.iastore, 49, 0, 0, 0, 0) else none) else (bif Nat.beq pc 49 then some (.aload_n 0, 50, 0, 0, 0, 0) else none))) else (bif Nat.ble pc 53 then (bif Nat.ble pc 50 then (bif Nat.beq pc 50 then some (.getfield 7, 53, 0, 7, 0, 607) else none) else (bif Nat.beq pc 53 then some (.iload 6, 55, 0, 0, 0, 0) else none)) else (bif Nat.ble pc 55 then (bif Nat.beq pc 55 then some (.bipush 10, 57, 0, 0, 0, 0) else none) else (bif Nat.beq pc 57 then some (.iadd, 58, 0, 0, 0, 0) else none)))) else (bif Nat.ble pc 62 then (bif Nat.ble pc 59 then (bif Nat.ble pc 58 then (bif Nat.beq pc 58 then some (.dup2, 59, 0, 0, 0, 0) else none) else (bif Nat.beq pc 59 then some (.iaload, 60, 0, 0, 0, 0) else none)) else (bif Nat.ble pc 60 then (bif Nat.beq pc 60 then some (.iload 5, 62, 0, 0, 0, 0) else none) else (bif Nat.beq pc 62 then some (.iadd, 63, 0, 0, 0, 0) else none))) else (bif Nat.ble pc 64 then (bif Nat.ble pc 63 then (bif Nat.beq pc 63 then some (.iastore, 64, 0, 0, 0, 0) else none) else (bif Nat.beq pc 64 then some (.aload_n 0, 65, 0, 0, 0, 0) else none)) else (bif Nat.ble pc 65 then (bif Nat.beq pc 65 then some (.getfield 7, 68, 0, 7, 0, 607) else none) else (bif Nat.beq pc 68 then some (.iload_n 1, 69, 0, 0, 0, 0) else none))))) else (bif Nat.ble pc 79 then (bif Nat.ble pc 74 then (bif Nat.ble pc 72 then (bif Nat.ble pc 69 then (bif Nat.beq pc 69 then some (.sipush 165, 72, 0, 0, 0, 0) else none) else (bif Nat.beq pc 72 then some (.iadd, 73, 0, 0, 0, 0) else none)) else (bif Nat.ble pc 73 then (bif Nat.beq pc 73 then some (.dup2, 74, 0, 0, 0, 0) else none) else (bif Nat.beq pc 74 then some (.iaload, 75, 0, 0, 0, 0) else none))) else (bif Nat.ble pc 77 then (bif Nat.ble pc 75 then (bif Nat.beq pc 75 then some (.iload 5, 77, 0, 0, 0, 0) else none) else (bif Nat.beq pc 77 then some (.iadd, 78, 0, 0, 0, 0) else none)) else (bif Nat.ble pc 78 then (bif Nat.beq pc 78 then some (.iastore, 79, 0, 0, 0, 0) else none) else (bif Nat.beq pc 79 then some (.aload_n 0, 80, 0, 0, 0, 0) else none)))) else (bif Nat.ble pc 86 then (bif Nat.ble pc 81 then (bif Nat.ble pc 80 then (bif Nat.beq pc 80 then some (.iload_n 2, 81, 0, 0, 0, 0) else none) else (bif Nat.beq pc 81 then some (.iload 4, 83, 0, 0, 0, 0) else none)) else (bif Nat.ble pc 83 then (bif Nat.beq pc 83 then some (.invokevirtual 107, 86, 7, 115, 3, 749) else none) else (bif Nat.beq pc 86 then some (.istore 7, 88, 0, 0, 0, 0) else none))) else (bif Nat.ble pc 89 then (bif Nat.ble pc 88 then (bif Nat.beq pc 88 then some (.aload_n 0, 89, 0, 0, 0, 0) else none) else (bif Nat.beq pc 89 then some (.getfield 7, 92, 0, 7, 0, 607) else none)) else (bif Nat.ble pc 92 then (bif Nat.beq pc 92 then some (.iload_n 1, 93, 0, 0, 0, 0) else none) else (bif Nat.beq pc 93 then some (.sipush 169, 96, 0, 0, 0, 0) else none))))))) else (bif Nat.ble pc 143 then (bif Nat.ble pc 118 then (bif Nat.ble pc 104 then (bif Nat.ble pc 99 then (bif Nat.ble pc 97 then (bif Nat.ble pc 96 then (bif Nat.beq pc 96 then some (.iadd, 97, 0, 0, 0, 0) else none) else (bif Nat.beq pc 97 then some (.dup2, 98, 0, 0, 0, 0) else none)) else (bif Nat.ble pc 98 then (bif Nat.beq pc 98 then some (.iaload, 99, 0, 0, 0, 0) else none) else (bif Nat.beq pc 99 then some (.iload 7, 101, 0, 0, 0, 0) else none))) else (bif Nat.ble pc 102 then (bif Nat.ble pc 101 then (bif Nat.beq pc 101 then some (.iadd, 102, 0, 0, 0, 0) else none) else (bif Nat.beq pc 102 then some (.iastore, 103, 0, 0, 0, 0) else none)) else (bif Nat.ble pc 103 then (bif Nat.beq pc 103 then some (.iload_n 1, 104, 0, 0, 0, 0) else none) else (bif Nat.beq pc 104 then some (.iload_n 3, 105, 0, 0, 0, 0) else none)))) else (bif Nat.ble pc 111 then (bif Nat.ble pc 108 then (bif Nat.ble pc 105 then (bif Nat.beq pc 105 then some (.invokestatic 56, 108, 0, 91, 2, 648) else none) else (bif Nat.beq pc 108 then some (.istore 8, 110, 0, 0, 0, 0) else none)) else (bif Nat.ble pc 110 then (bif Nat.beq pc 110 then some (.aload_n 0, 111, 0, 0, 0, 0) else none) else (bif Nat.beq pc 111 then some (.getfield 7, 114, 0, 7, 0, 607) else none))) else (bif Nat.ble pc 116 then (bif Nat.ble pc 114 then (bif Nat.beq pc 114 then some (.iload 8, 116, 0, 0, 0, 0) else none) else (bif Nat.beq pc 116 then some (.dup2, 117, 0, 0, 0, 0) else none)) else (bif Nat.ble pc 117 then (bif Nat.beq pc 117 then some (.iaload, 118, 0, 0, 0, 0) else none) else (bif Nat.beq pc 118 then some (.iload 7, 120, 0, 0, 0, 0) else none))))) else (bif Nat.ble pc 132 then (bif Nat.ble pc 123 then (bif Nat.ble pc 121 then (bif Nat.ble pc 120 then (bif Nat.beq pc 120 then some (.isub, 121, 0, 0, 0, 0) else none) else (bif Nat.beq pc 121 then some (.iastore, 122, 0, 0, 0, 0) else none)) else (bif Nat.ble pc 122 then (bif Nat.beq pc 122 then some (.aload_n 0, 123, 0, 0, 0, 0) else none) else (bif Nat.beq pc 123 then some (.getfield 7, 126, 0, 7, 0, 607) else none))) else (bif Nat.ble pc 128 then (bif Nat.ble pc 126 then (bif Nat.beq pc 126 then some (.iload 8, 128, 0, 0, 0, 0) else none) else (bif Nat.beq pc 128 then some (.iaload, 129, 0, 0, 0, 0) else none)) else (bif Nat.ble pc 129 then (bif Nat.beq pc 129 then some (.ifCond .ne 60, 132, 189, 0, 0, 0) else none) else (bif Nat.beq pc 132 then some (.aload_n 0, 133, 0, 0, 0, 0) else none)))) else (bif Nat.ble pc 139 then (bif Nat.ble pc 136 then (bif Nat.ble pc 133 then (bif Nat.beq pc 133 then some (.getfield 7, 136, 0, 7, 0, 607) else none) else (bif Nat.beq pc 136 then some (.iload_n 1, 137, 0, 0, 0, 0) else none)) else (bif Nat.ble pc 137 then (bif Nat.beq pc 137 then some (.bipush 114, 139, 0, 0, 0, 0) else none) else (bif Nat.beq pc 139 then some (.iadd, 140, 0, 0, 0, 0) else none))) else (bif Nat.ble pc 141 then (bif Nat.ble pc 140 then (bif Nat.beq pc 140 then some (.dup2, 141, 0, 0, 0, 0) else none) else (bif Nat.beq pc 141 then some (.iaload, 142, 0, 0, 0, 0) else none)) else (bif Nat.ble pc 142 then (bif Nat.beq pc 142 then some (.iconst 1, 143, 0, 0, 0, 0) else none) else (bif Nat.beq pc 143 then some (.isub, 144, 0, 0, 0, 0) else none)))))) else (bif Nat.ble pc 171 then (bif Nat.ble pc 156 then (bif Nat.ble pc 149 then (bif Nat.ble pc 145 then (bif Nat.ble pc 144 then (bif Nat.beq pc 144 then some (.iastore, 145, 0, 0, 0, 0) else none) else (bif Nat.beq pc 145 then some (.iload 8, 147, 0, 0, 0, 0) else none)) else (bif Nat.ble pc 147 then (bif Nat.beq pc 147 then some (.istore 9, 149, 0, 0, 0, 0) else none) else (bif Nat.beq pc 149 then some (.iload 9, 151, 0, 0, 0, 0) else none))) else (bif Nat.ble pc 152 then (bif Nat.ble pc 151 then (bif Nat.beq pc 151 then some (.iload_n 1, 152, 0, 0, 0, 0) else none) else (bif Nat.beq pc 152 then some (.aload_n 0, 153, 0, 0, 0, 0) else none)) else (bif Nat.ble pc 153 then (bif Nat.beq pc 153 then some (.getfield 7, 156, 0, 7, 0, 607) else none) else (bif Nat.beq pc 156 then some (.iload_n 1, 157, 0, 0, 0, 0) else none)))) else (bif Nat.ble pc 161 then (bif Nat.ble pc 159 then (bif Nat.ble pc 157 then (bif Nat.beq pc 157 then some (.bipush 114, 159, 0, 0, 0, 0) else none) else (bif Nat.beq pc 159 then some (.iadd, 160, 0, 0, 0, 0) else none)) else (bif Nat.ble pc 160 then (bif Nat.beq pc 160 then some (.iaload, 161, 0, 0, 0, 0) else none) else (bif Nat.beq pc 161 then some (.invokestatic 56, 164, 0, 91, 2, 648) else none))) else (bif Nat.ble pc 167 then (bif Nat.ble pc 164 then (bif Nat.beq pc 164 then some (.if_icmp .ge 25, 167, 189, 0, 0, 0) else none) else (bif Nat.beq pc 167 then some (.aload_n 0, 168, 0, 0, 0, 0) else none)) else (bif Nat.ble pc 168 then (bif Nat.beq pc 168 then some (.getfield 7, 171, 0, 7, 0, 607) else none) else (bif Nat.beq pc 171 then some (.iload 9, 173, 0, 0, 0, 0) else none))))) else (bif Nat.ble pc 183 then (bif Nat.ble pc 179 then (bif Nat.ble pc 174 then (bif Nat.ble pc 173 then (bif Nat.beq pc 173 then some (.aload_n 0, 174, 0, 0, 0, 0) else none) else (bif Nat.beq pc 174 then some (.getfield 7, 177, 0, 7, 0, 607) else none)) else (bif Nat.ble pc 177 then (bif Nat.beq pc 177 then some (.iload 9, 179, 0, 0, 0, 0) else none) else (bif Nat.beq pc 179 then some (.iconst 2, 180, 0, 0, 0, 0) else none))) else (bif Nat.ble pc 181 then (bif Nat.ble pc 180 then (bif Nat.beq pc 180 then some (.iadd, 181, 0, 0, 0, 0) else none) else (bif Nat.beq pc 181 then some (.iaload, 182, 0, 0, 0, 0) else none)) else (bif Nat.ble pc 182 then (bif Nat.beq pc 182 then some (.iastore, 183, 0, 0, 0, 0) else none) else (bif Nat.beq pc 183 then some (.iinc 9 1, 186, 0, 0, 0, 0) else none)))) else (bif Nat.ble pc 191 then (bif Nat.ble pc 189 then (bif Nat.ble pc 186 then (bif Nat.beq pc 186 then some (.goto (-37), 189, 149, 0, 0, 0) else none) else (bif Nat.beq pc 189 then some (.aload_n 0, 190, 0, 0, 0, 0) else none)) else (bif Nat.ble pc 190 then (bif Nat.beq pc 190 then some (.iload_n 1, 191, 0, 0, 0, 0) else none) else (bif Nat.beq pc 191 then some (.iconst 1, 192, 0, 0, 0, 0) else none))) else (bif Nat.ble pc 194 then (bif Nat.ble pc 192 then (bif Nat.beq pc 192 then some (.iload 4, 194, 0, 0, 0, 0) else none) else (bif Nat.beq pc 194 then some (.iadd, 195, 0, 0, 0, 0) else none)) else (bif Nat.ble pc 195 then (bif Nat.beq pc 195 then some (.invokevirtual 110, 198, 7, 100, 3, 761) else none) else (bif Nat.beq pc 198 then some (.ireturn, 199, 0, 0, 0, 0) else none))))))))
set_option maxRecDepth 100000 in
def fp_k118 (pc : Nat) : Option FpE := (bif Nat.ble pc 37 then (bif Nat.ble pc 18 then (bif Nat.ble pc 8 then (bif Nat.ble pc 1 then (bif Nat.ble pc 0 then (bif Nat.beq pc 0 then some (.aload_n 0, 1, 0, 0, 0, 0) else none) else (bif Nat.beq pc 1 then some (.iload_n 1, 2, 0, 0, 0, 0) else none)) else (bif Nat.ble pc 2 then (bif Nat.beq pc 2 then some (.invokevirtual 66, 5, 7, 84, 2, 667) else none) else (bif Nat.ble pc 5 then (bif Nat.beq pc 5 then some (.ifCond .eq 11, 8, 16, 0, 0, 0) else none) else (bif Nat.beq pc 8 then some (.aload_n 0, 9, 0, 0, 0, 0) else none)))) else (bif Nat.ble pc 13 then (bif Nat.ble pc 9 then (bif Nat.beq pc 9 then some (.iload_n 2, 10, 0, 0, 0, 0) else none) else (bif Nat.ble pc 10 then (bif Nat.beq pc 10 then some (.invokevirtual 62, 13, 7, 85, 2, 655) else none) else (bif Nat.beq pc 13 then some (.ifCond .ne 5, 16, 18, 0, 0, 0) else none))) else (bif Nat.ble pc 16 then (bif Nat.beq pc 16 then some (.iconst (-1), 17, 0, 0, 0, 0) else none) else (bif Nat.ble pc 17 then (bif Nat.beq pc 17 then some (.ireturn, 18, 0, 0, 0, 0) else none) else (bif Nat.beq pc 18 then some (.iload_n 3, 19, 0, 0, 0, 0) else none))))) else (bif Nat.ble pc 29 then (bif Nat.ble pc 21 then (bif Nat.ble pc 19 then (bif Nat.beq pc 19 then some (.iconst 0, 20, 0, 0, 0, 0) else none) else (bif Nat.ble pc 20 then (bif Nat.beq pc 20 then some (.iconst 3, 21, 0, 0, 0, 0) else none) else (bif Nat.beq pc 21 then some (.invokestatic 20, 24, 0, 83, 3, 633) else none))) else (bif Nat.ble pc 24 then (bif Nat.beq pc 24 then some (.ifCond .ne 6, 27, 30, 0, 0, 0) else none) else (bif Nat.ble pc 27 then (bif Nat.beq pc 27 then some (.bipush (-2), 29, 0, 0, 0, 0) else none) else (bif Nat.beq pc 29 then some (.ireturn, 30, 0, 0, 0, 0) else none)))) else (bif Nat.ble pc 32 then (bif Nat.ble pc 30 then (bif Nat.beq pc 30 then some (.aload_n 0, 31, 0, 0, 0, 0) else none) else (bif Nat.ble pc 31 then (bif Nat.beq pc 31 then some (.iload_n 1, 32, 0, 0, 0, 0) else none) else (bif Nat.beq pc 32 then some (.iload_n 2, 33, 0, 0, 0, 0) else none))) else (bif Nat.ble pc 33 then (bif Nat.beq pc 33 then some (.iload_n 3, 34, 0, 0, 0, 0) else none) else (bif Nat.ble pc 34 then (bif Nat.beq pc 34 then some (.invokevirtual 113, 37, 7, 116, 4, 745) else none) else (bif Nat.beq pc 37 then some (.istore 4, 39, 0, 0, 0, 0) else none)))))) else (bif Nat.ble pc 57 then (bif Nat.ble pc 48 then (bif Nat.ble pc 41 then (bif Nat.ble pc 39 then (bif Nat.beq pc 39 then some (.iload 4, 41, 0, 0, 0, 0) else none) else (bif Nat.beq pc 41 then some (.ifCond .le 9, 44, 50, 0, 0, 0) else none)) else (bif Nat.ble pc 44 then (bif Nat.beq pc 44 then some (.bipush (-10), 46, 0, 0, 0, 0) else none) else (bif Nat.ble pc 46 then (bif Nat.beq pc 46 then some (.iload 4, 48, 0, 0, 0, 0) else none) else (bif Nat.beq pc 48 then some (.isub, 49, 0, 0, 0, 0) else none)))) else (bif Nat.ble pc 51 then (bif Nat.ble pc 49 then (bif Nat.beq pc 49 then some (.ireturn, 50, 0, 0, 0, 0) else none) else (bif Nat.ble pc 50 then (bif Nat.beq pc 50 then some (.aload_n 0, 51, 0, 0, 0, 0) else none) else (bif Nat.beq pc 51 then some (.iconst 0, 52, 0, 0, 0, 0) else none))) else (bif Nat.ble pc 52 then (bif Nat.beq pc 52 then some (.bipush 6, 54, 0, 0, 0, 0) else none) else (bif Nat.ble pc 54 then (bif Nat.beq pc 54 then some (.invokevirtual 28, 57, 7, 87, 3, 640) else none) else (bif Nat.beq pc 57 then some (.aload_n 0, 58, 0, 0, 0, 0) else none))))) else (bif Nat.ble pc 67 then (bif Nat.ble pc 62 then (bif Nat.ble pc 58 then (bif Nat.beq pc 58 then some (.sipush 1020, 61, 0, 0, 0, 0) else none) else (bif Nat.ble pc 61 then (bif Nat.beq pc 61 then some (.iload_n 1, 62, 0, 0, 0, 0) else none) else (bif Nat.beq pc 62 then some (.iload_n 2, 63, 0, 0, 0, 0) else none))) else (bif Nat.ble pc 63 then (bif Nat.beq pc 63 then some (.iload_n 3, 64, 0, 0, 0, 0) else none) else (bif Nat.ble pc 64 then (bif Nat.beq pc 64 then some (.invokevirtual 117, 67, 7, 117, 5, 757) else none) else (bif Nat.beq pc 67 then some (.pop, 68, 0, 0, 0, 0) else none)))) else (bif Nat.ble pc 72 then (bif Nat.ble pc 68 then (bif Nat.beq pc 68 then some (.aload_n 0, 69, 0, 0, 0, 0) else none) else (bif Nat.ble pc 69 then (bif Nat.beq pc 69 then some (.invokevirtual 95, 72, 7, 89, 1, 705) else none) else (bif Nat.beq pc 72 then some (.iconst 1, 73, 0, 0, 0, 0) else none))) else (bif Nat.ble pc 73 then (bif Nat.beq pc 73 then some (.iload_n 3, 74, 0, 0, 0, 0) else none) else (bif Nat.ble pc 74 then (bif Nat.beq pc 74 then some (.ishl, 75, 0, 0, 0, 0) else none) else (bif Nat.beq pc 75 then some (.ireturn, 76, 0, 0, 0, 0) else none)))))))
set_option maxRecDepth 100000 in
def fp_k119 (pc : Nat) : Option FpE := (bif Nat.ble pc 58 then (bif Nat.ble pc 27 then (bif Nat.ble pc 11 then (bif Nat.ble pc 5 then (bif Nat.ble pc 1 then (bif Nat.ble pc 0 then (bif Nat.beq pc 0 then some (.aload_n 0, 1, 0, 0, 0, 0) else none) else (bif Nat.beq pc 1 then some (.iload_n 1, 2, 0, 0, 0, 0) else none)) else (bif Nat.ble pc 2 then (bif Nat.beq pc 2 then some (.invokevirtual 66, 5, 7, 84, 2, 667) else none) else (bif Nat.beq pc 5 then some (.ifCond .ne 5, 8, 10, 0, 0, 0) else none))) else (bif Nat.ble pc 9 then (bif Nat.ble pc 8 then (bif Nat.beq pc 8 then some (.iconst (-1), 9, 0, 0, 0, 0) else none) else (bif Nat.beq pc 9 then some (.ireturn, 10, 0, 0, 0, 0) else none)) else (bif Nat.ble pc 10 then (bif Nat.beq pc 10 then some (.iconst 0, 11, 0, 0, 0, 0) else none) else (bif Nat.beq pc 11 then some (.iload_n 1, 12, 0, 0, 0, 0) else none)))) else (bif Nat.ble pc 17 then (bif Nat.ble pc 15 then (bif Nat.ble pc 12 then (bif Nat.beq pc 12 then some (.invokestatic 36, 15, 0, 90, 2, 671) else none) else (bif Nat.beq pc 15 then some (.istore_n 3, 16, 0, 0, 0, 0) else none)) else (bif Nat.ble pc 16 then (bif Nat.beq pc 16 then some (.iload_n 2, 17, 0, 0, 0, 0) else none) else (bif Nat.beq pc 17 then some (.ifCond .eq 8, 20, 25, 0, 0, 0) else none))) else (bif Nat.ble pc 22 then (bif Nat.ble pc 20 then (bif Nat.beq pc 20 then some (.bipush 8, 22, 0, 0, 0, 0) else none) else (bif Nat.beq pc 22 then some (.goto 5, 25, 27, 0, 0, 0) else none)) else (bif Nat.ble pc 25 then (bif Nat.beq pc 25 then some (.bipush 9, 27, 0, 0, 0, 0) else none) else (bif Nat.beq pc 27 then some (.istore 4, 29, 0, 0, 0, 0) else none))))) else (bif Nat.ble pc 43 then (bif Nat.ble pc 35 then (bif Nat.ble pc 30 then (bif Nat.ble pc 29 then (bif Nat.beq pc 29 then some (.iload_n 2, 30, 0, 0, 0, 0) else none) else (bif Nat.beq pc 30 then some (.ifCond .eq 8, 33, 38, 0, 0, 0) else none)) else (bif Nat.ble pc 33 then (bif Nat.beq pc 33 then some (.bipush 9, 35, 0, 0, 0, 0) else none) else (bif Nat.beq pc 35 then some (.goto 5, 38, 40, 0, 0, 0) else none))) else (bif Nat.ble pc 40 then (bif Nat.ble pc 38 then (bif Nat.beq pc 38 then some (.bipush 8, 40, 0, 0, 0, 0) else none) else (bif Nat.beq pc 40 then some (.istore 5, 42, 0, 0, 0, 0) else none)) else (bif Nat.ble pc 42 then (bif Nat.beq pc 42 then some (.aload_n 0, 43, 0, 0, 0, 0) else none) else (bif Nat.beq pc 43 then some (.getfield 7, 46, 0, 7, 0, 607) else none)))) else (bif Nat.ble pc 50 then (bif Nat.ble pc 47 then (bif Nat.ble pc 46 then (bif Nat.beq pc 46 then some (.iload_n 3, 47, 0, 0, 0, 0) else none) else (bif Nat.beq pc 47 then some (.iload 4, 49, 0, 0, 0, 0) else none)) else (bif Nat.ble pc 49 then (bif Nat.beq pc 49 then some (.iadd, 50, 0, 0, 0, 0) else none) else (bif Nat.beq pc 50 then some (.iaload, 51, 0, 0, 0, 0) else none))) else (bif Nat.ble pc 54 then (bif Nat.ble pc 51 then (bif Nat.beq pc 51 then some (.ifCond .ne 6, 54, 57, 0, 0, 0) else none) else (bif Nat.beq pc 54 then some (.bipush (-4), 56, 0, 0, 0, 0) else none)) else (bif Nat.ble pc 56 then (bif Nat.beq pc 56 then some (.ireturn, 57, 0, 0, 0, 0) else none) else (bif Nat.ble pc 57 then (bif Nat.beq pc 57 then some (.aload_n 0, 58, 0, 0, 0, 0) else none) else (bif Nat.beq pc 58 then some (.iconst 0, 59, 0, 0, 0, 0) else none))))))) else (bif Nat.ble pc 82 then (bif Nat.ble pc 71 then (bif Nat.ble pc 66 then (bif Nat.ble pc 62 then (bif Nat.ble pc 59 then (bif Nat.beq pc 59 then some (.invokevirtual 32, 62, 7, 88, 2, 636) else none) else (bif Nat.beq pc 62 then some (.aload_n 0, 63, 0, 0, 0, 0) else none)) else (bif Nat.ble pc 63 then (bif Nat.beq pc 63 then some (.getfield 7, 66, 0, 7, 0, 607) else none) else (bif Nat.beq pc 66 then some (.iload_n 3, 67, 0, 0, 0, 0) else none))) else (bif Nat.ble pc 69 then (bif Nat.ble pc 67 then (bif Nat.beq pc 67 then some (.iload 4, 69, 0, 0, 0, 0) else none) else (bif Nat.beq pc 69 then some (.iadd, 70, 0, 0, 0, 0) else none)) else (bif Nat.ble pc 70 then (bif Nat.beq pc 70 then some (.dup2, 71, 0, 0, 0, 0) else none) else (bif Nat.beq pc 71 then some (.iaload, 72, 0, 0, 0, 0) else none)))) else (bif Nat.ble pc 75 then (bif Nat.ble pc 73 then (bif Nat.ble pc 72 then (bif Nat.beq pc 72 then some (.iconst 1, 73, 0, 0, 0, 0) else none) else (bif Nat.beq pc 73 then some (.isub, 74, 0, 0, 0, 0) else none)) else (bif Nat.ble pc 74 then (bif Nat.beq pc 74 then some (.iastore, 75, 0, 0, 0, 0) else none) else (bif Nat.beq pc 75 then some (.aload_n 0, 76, 0, 0, 0, 0) else none))) else (bif Nat.ble pc 79 then (bif Nat.ble pc 76 then (bif Nat.beq pc 76 then some (.getfield 7, 79, 0, 7, 0, 607) else none) else (bif Nat.beq pc 79 then some (.iload_n 3, 80, 0, 0, 0, 0) else none)) else (bif Nat.ble pc 80 then (bif Nat.beq pc 80 then some (.iload 5, 82, 0, 0, 0, 0) else none) else (bif Nat.beq pc 82 then some (.iadd, 83, 0, 0, 0, 0) else none))))) else (bif Nat.ble pc 90 then (bif Nat.ble pc 86 then (bif Nat.ble pc 84 then (bif Nat.ble pc 83 then (bif Nat.beq pc 83 then some (.dup2, 84, 0, 0, 0, 0) else none) else (bif Nat.beq pc 84 then some (.iaload, 85, 0, 0, 0, 0) else none)) else (bif Nat.ble pc 85 then (bif Nat.beq pc 85 then some (.iconst 1, 86, 0, 0, 0, 0) else none) else (bif Nat.beq pc 86 then some (.iadd, 87, 0, 0, 0, 0) else none))) else (bif Nat.ble pc 88 then (bif Nat.ble pc 87 then (bif Nat.beq pc 87 then some (.iastore, 88, 0, 0, 0, 0) else none) else (bif Nat.beq pc 88 then some (.aload_n 0, 89, 0, 0, 0, 0) else none)) else (bif Nat.ble pc 89 then (bif Nat.beq pc 89 then some (.iconst 0, 90, 0, 0, 0, 0) else none) else (bif Nat.beq pc 90 then some (.iconst 1, 91, 0, 0, 0, 0) else none)))) else (bif Nat.ble pc 96 then (bif Nat.ble pc 94 then (bif Nat.ble pc 91 then (bif Nat.beq pc 91 then some (.invokevirtual 110, 94, 7, 100, 3, 761) else none) else (bif Nat.beq pc 94 then some (.pop, 95, 0, 0, 0, 0) else none)) else (bif Nat.ble pc 95 then (bif Nat.beq pc 95 then some (.aload_n 0, 96, 0, 0, 0, 0) else none) else (bif Nat.beq pc 96 then some (.getfield 7, 99, 0, 7, 0, 607) else none))) else (bif Nat.ble pc 100 then (bif Nat.ble pc 99 then (bif Nat.beq pc 99 then some (.iload_n 3, 100, 0, 0, 0, 0) else none) else (bif Nat.beq pc 100 then some (.iload 5, 102, 0, 0, 0, 0) else none)) else (bif Nat.ble pc 102 then (bif Nat.beq pc 102 then some (.iadd, 103, 0, 0, 0, 0) else none) else (bif Nat.ble pc 103 then (bif Nat.beq pc 103 then some (.iaload, 104, 0, 0, 0, 0) else none) else (bif Nat.beq pc 104 then some (.ireturn, 105, 0, 0, 0, 0) else none))))))))
set_option maxRecDepth 100000 in
def fp_k120 (pc : Nat) : Option FpE := (bif Nat.ble pc 40 then (bif Nat.ble pc 17 then (bif Nat.ble pc 9 then (bif Nat.ble pc 2 then (bif Nat.ble pc 0 then (bif Nat.beq pc 0 then some (.iload_n 1, 1, 0, 0, 0, 0) else none) else (bif Nat.ble pc 1 then (bif Nat.beq pc 1 then some (.iconst 0, 2, 0, 0, 0, 0) else none) else (bif Nat.beq pc 2 then some (.iconst 2, 3, 0, 0, 0, 0) else none))) else (bif Nat.ble pc 3 then (bif Nat.beq pc 3 then some (.invokestatic 20, 6, 0, 83, 3, 633) else none) else (bif Nat.ble pc 6 then (bif Nat.beq pc 6 then some (.ifCond .ne 5, 9, 11, 0, 0, 0) else none) else (bif Nat.beq pc 9 then some (.iconst (-1), 10, 0, 0, 0, 0) else none)))) else (bif Nat.ble pc 12 then (bif Nat.ble pc 10 then (bif Nat.beq pc 10 then some (.ireturn, 11, 0, 0, 0, 0) else none) else (bif Nat.ble pc 11 then (bif Nat.beq pc 11 then some (.iload_n 2, 12, 0, 0, 0, 0) else none) else (bif Nat.beq pc 12 then some (.iload_n 1, 13, 0, 0, 0, 0) else none))) else (bif Nat.ble pc 13 then (bif Nat.beq pc 13 then some (.iconst 2, 14, 0, 0, 0, 0) else none) else (bif Nat.ble pc 14 then (bif Nat.beq pc 14 then some (.if_icmp .ne 7, 17, 21, 0, 0, 0) else none) else (bif Nat.beq pc 17 then some (.iconst 1, 18, 0, 0, 0, 0) else none))))) else (bif Nat.ble pc 28 then (bif Nat.ble pc 22 then (bif Nat.ble pc 18 then (bif Nat.beq pc 18 then some (.goto 4, 21, 22, 0, 0, 0) else none) else (bif Nat.ble pc 21 then (bif Nat.beq pc 21 then some (.iconst 0, 22, 0, 0, 0, 0) else none) else (bif Nat.beq pc 22 then some (.iload_n 1, 23, 0, 0, 0, 0) else none))) else (bif Nat.ble pc 23 then (bif Nat.beq pc 23 then some (.ifCond .ne 8, 26, 31, 0, 0, 0) else none) else (bif Nat.ble pc 26 then (bif Nat.beq pc 26 then some (.bipush 9, 28, 0, 0, 0, 0) else none) else (bif Nat.beq pc 28 then some (.goto 14, 31, 42, 0, 0, 0) else none)))) else (bif Nat.ble pc 33 then (bif Nat.ble pc 31 then (bif Nat.beq pc 31 then some (.iload_n 1, 32, 0, 0, 0, 0) else none) else (bif Nat.ble pc 32 then (bif Nat.beq pc 32 then some (.iconst 1, 33, 0, 0, 0, 0) else none) else (bif Nat.beq pc 33 then some (.if_icmp .ne 7, 36, 40, 0, 0, 0) else none))) else (bif Nat.ble pc 36 then (bif Nat.beq pc 36 then some (.iconst 3, 37, 0, 0, 0, 0) else none) else (bif Nat.ble pc 37 then (bif Nat.beq pc 37 then some (.goto 5, 40, 42, 0, 0, 0) else none) else (bif Nat.beq pc 40 then some (.bipush 24, 42, 0, 0, 0, 0) else none)))))) else (bif Nat.ble pc 60 then (bif Nat.ble pc 52 then (bif Nat.ble pc 48 then (bif Nat.ble pc 42 then (bif Nat.beq pc 42 then some (.invokestatic 20, 45, 0, 83, 3, 633) else none) else (bif Nat.ble pc 45 then (bif Nat.beq pc 45 then some (.ifCond .ne 6, 48, 51, 0, 0, 0) else none) else (bif Nat.beq pc 48 then some (.bipush (-2), 50, 0, 0, 0, 0) else none))) else (bif Nat.ble pc 50 then (bif Nat.beq pc 50 then some (.ireturn, 51, 0, 0, 0, 0) else none) else (bif Nat.ble pc 51 then (bif Nat.beq pc 51 then some (.aload_n 0, 52, 0, 0, 0, 0) else none) else (bif Nat.beq pc 52 then some (.getfield 7, 55, 0, 7, 0, 607) else none)))) else (bif Nat.ble pc 57 then (bif Nat.ble pc 55 then (bif Nat.beq pc 55 then some (.iload_n 1, 56, 0, 0, 0, 0) else none) else (bif Nat.ble pc 56 then (bif Nat.beq pc 56 then some (.iaload, 57, 0, 0, 0, 0) else none) else (bif Nat.beq pc 57 then some (.istore_n 3, 58, 0, 0, 0, 0) else none))) else (bif Nat.ble pc 58 then (bif Nat.beq pc 58 then some (.iload_n 3, 59, 0, 0, 0, 0) else none) else (bif Nat.ble pc 59 then (bif Nat.beq pc 59 then some (.iload_n 2, 60, 0, 0, 0, 0) else none) else (bif Nat.beq pc 60 then some (.if_icmp .ne 6, 63, 66, 0, 0, 0) else none))))) else (bif Nat.ble pc 71 then (bif Nat.ble pc 66 then (bif Nat.ble pc 63 then (bif Nat.beq pc 63 then some (.bipush (-5), 65, 0, 0, 0, 0) else none) else (bif Nat.ble pc 65 then (bif Nat.beq pc 65 then some (.ireturn, 66, 0, 0, 0, 0) else none) else (bif Nat.beq pc 66 then some (.aload_n 0, 67, 0, 0, 0, 0) else none))) else (bif Nat.ble pc 67 then (bif Nat.beq pc 67 then some (.iconst 0, 68, 0, 0, 0, 0) else none) else (bif Nat.ble pc 68 then (bif Nat.beq pc 68 then some (.invokevirtual 32, 71, 7, 88, 2, 636) else none) else (bif Nat.beq pc 71 then some (.aload_n 0, 72, 0, 0, 0, 0) else none)))) else (bif Nat.ble pc 76 then (bif Nat.ble pc 72 then (bif Nat.beq pc 72 then some (.getfield 7, 75, 0, 7, 0, 607) else none) else (bif Nat.ble pc 75 then (bif Nat.beq pc 75 then some (.iload_n 1, 76, 0, 0, 0, 0) else none) else (bif Nat.beq pc 76 then some (.iload_n 2, 77, 0, 0, 0, 0) else none))) else (bif Nat.ble pc 77 then (bif Nat.beq pc 77 then some (.iastore, 78, 0, 0, 0, 0) else none) else (bif Nat.ble pc 78 then (bif Nat.beq pc 78 then some (.iload_n 3, 79, 0, 0, 0, 0) else none) else (bif Nat.beq pc 79 then some (.ireturn, 80, 0, 0, 0, 0) else none)))))))
set_option maxRecDepth 100000 in
def fp_k121 (pc : Nat) : Option FpE := (bif Nat.ble pc 17 then (bif Nat.ble pc 9 then (bif Nat.ble pc 1 then (bif Nat.ble pc 0 then (bif Nat.beq pc 0 then some (.aload_n 0, 1, 0, 0, 0, 0) else none) else (bif Nat.beq pc 1 then some (.getfield 76, 4, 0, 7, 4, 611) else none)) else (bif Nat.ble pc 4 then (bif Nat.beq pc 4 then some (.bipush 80, 6, 0, 0, 0, 0) else none) else (bif Nat.ble pc 6 then (bif Nat.beq pc 6 then some (.if_icmp .ne 6, 9, 12, 0, 0, 0) else none) else (bif Nat.beq pc 9 then some (.bipush (-3), 11, 0, 0, 0, 0) else none)))) else (bif Nat.ble pc 12 then (bif Nat.ble pc 11 then (bif Nat.beq pc 11 then some (.ireturn, 12, 0, 0, 0, 0) else none) else (bif Nat.beq pc 12 then some (.aload_n 0, 13, 0, 0, 0, 0) else none)) else (bif Nat.ble pc 13 then (bif Nat.beq pc 13 then some (.getfield 13, 16, 0, 7, 3, 610) else none) else (bif Nat.ble pc 16 then (bif Nat.beq pc 16 then some (.aload_n 0, 17, 0, 0, 0, 0) else none) else (bif Nat.beq pc 17 then some (.getfield 76, 20, 0, 7, 4, 611) else none))))) else (bif Nat.ble pc 24 then (bif Nat.ble pc 21 then (bif Nat.ble pc 20 then (bif Nat.beq pc 20 then some (.iload_n 1, 21, 0, 0, 0, 0) else none) else (bif Nat.beq pc 21 then some (.castore, 22, 0, 0, 0, 0) else none)) else (bif Nat.ble pc 22 then (bif Nat.beq pc 22 then some (.aload_n 0, 23, 0, 0, 0, 0) else none) else (bif Nat.ble pc 23 then (bif Nat.beq pc 23 then some (.dup, 24, 0, 0, 0, 0) else none) else (bif Nat.beq pc 24 then some (.getfield 76, 27, 0, 7, 4, 611) else none)))) else (bif Nat.ble pc 29 then (bif Nat.ble pc 27 then (bif Nat.beq pc 27 then some (.iconst 1, 28, 0, 0, 0, 0) else none) else (bif Nat.ble pc 28 then (bif Nat.beq pc 28 then some (.iadd, 29, 0, 0, 0, 0) else none) else (bif Nat.beq pc 29 then some (.putfield 76, 32, 0, 7, 4, 611) else none))) else (bif Nat.ble pc 32 then (bif Nat.beq pc 32 then some (.aload_n 0, 33, 0, 0, 0, 0) else none) else (bif Nat.ble pc 33 then (bif Nat.beq pc 33 then some (.getfield 76, 36, 0, 7, 4, 611) else none) else (bif Nat.beq pc 36 then some (.ireturn, 37, 0, 0, 0, 0) else none))))))
set_option maxRecDepth 100000 in
def fp_k122 (pc : Nat) : Option FpE := (bif Nat.ble pc 5 then (bif Nat.ble pc 1 then (bif Nat.ble pc 0 then (bif Nat.beq pc 0 then some (.aload_n 0, 1, 0, 0, 0, 0) else none) else (bif Nat.beq pc 1 then some (.getfield 76, 4, 0, 7, 4, 611) else none)) else (bif Nat.ble pc 4 then (bif Nat.beq pc 4 then some (.istore_n 1, 5, 0, 0, 0, 0) else none) else (bif Nat.beq pc 5 then some (.aload_n 0, 6, 0, 0, 0, 0) else none))) else (bif Nat.ble pc 7 then (bif Nat.ble pc 6 then (bif Nat.beq pc 6 then some (.iconst 0, 7, 0, 0, 0, 0) else none) else (bif Nat.beq pc 7 then some (.putfield 76, 10, 0, 7, 4, 611) else none)) else (bif Nat.ble pc 10 then (bif Nat.beq pc 10 then some (.iload_n 1, 11, 0, 0, 0, 0) else none) else (bif Nat.beq pc 11 then some (.ireturn, 12, 0, 0, 0, 0) else none))))
set_option maxRecDepth 100000 in
def fp_k123 (pc : Nat) : Option FpE := (bif Nat.ble pc 15 then (bif Nat.ble pc 7 then (bif Nat.ble pc 1 then (bif Nat.ble pc 0 then (bif Nat.beq pc 0 then some (.aload_n 0, 1, 0, 0, 0, 0) else none) else (bif Nat.beq pc 1 then some (.getfield 24, 4, 0, 7, 1, 608) else none)) else (bif Nat.ble pc 4 then (bif Nat.beq pc 4 then some (.ifCond .ne 6, 7, 10, 0, 0, 0) else none) else (bif Nat.beq pc 7 then some (.bipush (-5), 9, 0, 0, 0, 0) else none))) else (bif Nat.ble pc 10 then (bif Nat.ble pc 9 then (bif Nat.beq pc 9 then some (.ireturn, 10, 0, 0, 0, 0) else none) else (bif Nat.beq pc 10 then some (.aload_n 0, 11, 0, 0, 0, 0) else none)) else (bif Nat.ble pc 11 then (bif Nat.beq pc 11 then some (.aload_n 0, 12, 0, 0, 0, 0) else none) else (bif Nat.ble pc 12 then (bif Nat.beq pc 12 then some (.getfield 24, 15, 0, 7, 1, 608) else none) else (bif Nat.beq pc 15 then some (.iconst 0, 16, 0, 0, 0, 0) else none))))) else (bif Nat.ble pc 24 then (bif Nat.ble pc 19 then (bif Nat.ble pc 16 then (bif Nat.beq pc 16 then some (.invokevirtual 28, 19, 7, 87, 3, 640) else none) else (bif Nat.beq pc 19 then some (.aload_n 0, 20, 0, 0, 0, 0) else none)) else (bif Nat.ble pc 20 then (bif Nat.beq pc 20 then some (.dup, 21, 0, 0, 0, 0) else none) else (bif Nat.ble pc 21 then (bif Nat.beq pc 21 then some (.getfield 24, 24, 0, 7, 1, 608) else none) else (bif Nat.beq pc 24 then some (.iconst 1, 25, 0, 0, 0, 0) else none)))) else (bif Nat.ble pc 26 then (bif Nat.ble pc 25 then (bif Nat.beq pc 25 then some (.isub, 26, 0, 0, 0, 0) else none) else (bif Nat.beq pc 26 then some (.putfield 24, 29, 0, 7, 1, 608) else none)) else (bif Nat.ble pc 29 then (bif Nat.beq pc 29 then some (.aload_n 0, 30, 0, 0, 0, 0) else none) else (bif Nat.ble pc 30 then (bif Nat.beq pc 30 then some (.getfield 24, 33, 0, 7, 1, 608) else none) else (bif Nat.beq pc 33 then some (.ireturn, 34, 0, 0, 0, 0) else none))))))
set_option maxRecDepth 100000 in
def fp_k124 (pc : Nat) : Option FpE := (bif Nat.ble pc 7 then (bif Nat.ble pc 2 then (bif Nat.ble pc 0 then (bif Nat.beq pc 0 then some (.aload_n 0, 1, 0, 0, 0, 0) else none) else (bif Nat.ble pc 1 then (bif Nat.beq pc 1 then some (.iconst 0, 2, 0, 0, 0, 0) else none) else (bif Nat.beq pc 2 then some (.iconst 5, 3, 0, 0, 0, 0) else none))) else (bif Nat.ble pc 3 then (bif Nat.beq pc 3 then some (.invokevirtual 28, 6, 7, 87, 3, 640) else none) else (bif Nat.ble pc 6 then (bif Nat.beq pc 6 then some (.aload_n 0, 7, 0, 0, 0, 0) else none) else (bif Nat.beq pc 7 then some (.iconst 1, 8, 0, 0, 0, 0) else none)))) else (bif Nat.ble pc 12 then (bif Nat.ble pc 8 then (bif Nat.beq pc 8 then some (.putfield 121, 11, 0, 7, 2, 609) else none) else (bif Nat.ble pc 11 then (bif Nat.beq pc 11 then some (.aload_n 0, 12, 0, 0, 0, 0) else none) else (bif Nat.beq pc 12 then some (.getfield 7, 15, 0, 7, 0, 607) else none))) else (bif Nat.ble pc 15 then (bif Nat.beq pc 15 then some (.sipush 168, 18, 0, 0, 0, 0) else none) else (bif Nat.ble pc 18 then (bif Nat.beq pc 18 then some (.iaload, 19, 0, 0, 0, 0) else none) else (bif Nat.beq pc 19 then some (.ireturn, 20, 0, 0, 0, 0) else none)))))
set_option maxRecDepth 100000 in
def fp_k125 (pc : Nat) : Option FpE := (bif Nat.ble pc 12 then (bif Nat.ble pc 7 then (bif Nat.ble pc 1 then (bif Nat.ble pc 0 then (bif Nat.beq pc 0 then some (.aload_n 0, 1, 0, 0, 0, 0) else none) else (bif Nat.beq pc 1 then some (.getfield 121, 4, 0, 7, 2, 609) else none)) else (bif Nat.ble pc 4 then (bif Nat.beq pc 4 then some (.ifCond .ne 6, 7, 10, 0, 0, 0) else none) else (bif Nat.beq pc 7 then some (.bipush (-5), 9, 0, 0, 0, 0) else none))) else (bif Nat.ble pc 10 then (bif Nat.ble pc 9 then (bif Nat.beq pc 9 then some (.ireturn, 10, 0, 0, 0, 0) else none) else (bif Nat.beq pc 10 then some (.aload_n 0, 11, 0, 0, 0, 0) else none)) else (bif Nat.ble pc 11 then (bif Nat.beq pc 11 then some (.iconst 0, 12, 0, 0, 0, 0) else none) else (bif Nat.beq pc 12 then some (.invokevirtual 32, 15, 7, 88, 2, 636) else none)))) else (bif Nat.ble pc 18 then (bif Nat.ble pc 16 then (bif Nat.ble pc 15 then (bif Nat.beq pc 15 then some (.aload_n 0, 16, 0, 0, 0, 0) else none) else (bif Nat.beq pc 16 then some (.iconst 5, 17, 0, 0, 0, 0) else none)) else (bif Nat.ble pc 17 then (bif Nat.beq pc 17 then some (.iconst 0, 18, 0, 0, 0, 0) else none) else (bif Nat.beq pc 18 then some (.invokevirtual 28, 21, 7, 87, 3, 640) else none))) else (bif Nat.ble pc 22 then (bif Nat.ble pc 21 then (bif Nat.beq pc 21 then some (.aload_n 0, 22, 0, 0, 0, 0) else none) else (bif Nat.beq pc 22 then some (.getfield 7, 25, 0, 7, 0, 607) else none)) else (bif Nat.ble pc 25 then (bif Nat.beq pc 25 then some (.sipush 168, 28, 0, 0, 0, 0) else none) else (bif Nat.ble pc 28 then (bif Nat.beq pc 28 then some (.iaload, 29, 0, 0, 0, 0) else none) else (bif Nat.beq pc 29 then some (.ireturn, 30, 0, 0, 0, 0) else none))))))
set_option maxRecDepth 100000 in
def fp_k126 (pc : Nat) : Option FpE := (bif Nat.ble pc 18 then (bif Nat.ble pc 8 then (bif Nat.ble pc 1 then (bif Nat.ble pc 0 then (bif Nat.beq pc 0 then some (.aload_n 0, 1, 0, 0, 0, 0) else none) else (bif Nat.beq pc 1 then some (.iload_n 1, 2, 0, 0, 0, 0) else none)) else (bif Nat.ble pc 2 then (bif Nat.beq pc 2 then some (.invokevirtual 66, 5, 7, 84, 2, 667) else none) else (bif Nat.ble pc 5 then (bif Nat.beq pc 5 then some (.ifCond .eq 28, 8, 33, 0, 0, 0) else none) else (bif Nat.beq pc 8 then some (.iload_n 2, 9, 0, 0, 0, 0) else none)))) else (bif Nat.ble pc 10 then (bif Nat.ble pc 9 then (bif Nat.beq pc 9 then some (.iconst 0, 10, 0, 0, 0, 0) else none) else (bif Nat.beq pc 10 then some (.bipush 7, 12, 0, 0, 0, 0) else none)) else (bif Nat.ble pc 12 then (bif Nat.beq pc 12 then some (.invokestatic 20, 15, 0, 83, 3, 633) else none) else (bif Nat.ble pc 15 then (bif Nat.beq pc 15 then some (.ifCond .eq 18, 18, 33, 0, 0, 0) else none) else (bif Nat.beq pc 18 then some (.aload_n 0, 19, 0, 0, 0, 0) else none))))) else (bif Nat.ble pc 27 then (bif Nat.ble pc 22 then (bif Nat.ble pc 19 then (bif Nat.beq pc 19 then some (.getfield 7, 22, 0, 7, 0, 607) else none) else (bif Nat.beq pc 22 then some (.iconst 0, 23, 0, 0, 0, 0) else none)) else (bif Nat.ble pc 23 then (bif Nat.beq pc 23 then some (.iload_n 1, 24, 0, 0, 0, 0) else none) else (bif Nat.ble pc 24 then (bif Nat.beq pc 24 then some (.invokestatic 36, 27, 0, 90, 2, 671) else none) else (bif Nat.beq pc 27 then some (.iload_n 2, 28, 0, 0, 0, 0) else none)))) else (bif Nat.ble pc 29 then (bif Nat.ble pc 28 then (bif Nat.beq pc 28 then some (.iadd, 29, 0, 0, 0, 0) else none) else (bif Nat.beq pc 29 then some (.iaload, 30, 0, 0, 0, 0) else none)) else (bif Nat.ble pc 30 then (bif Nat.beq pc 30 then some (.goto 4, 33, 34, 0, 0, 0) else none) else (bif Nat.ble pc 33 then (bif Nat.beq pc 33 then some (.iconst (-1), 34, 0, 0, 0, 0) else none) else (bif Nat.beq pc 34 then some (.ireturn, 35, 0, 0, 0, 0) else none))))))
set_option maxRecDepth 100000 in
def fp_k127 (pc : Nat) : Option FpE := (bif Nat.ble pc 18 then (bif Nat.ble pc 6 then (bif Nat.ble pc 1 then (bif Nat.ble pc 0 then (bif Nat.beq pc 0 then some (.iconst 0, 1, 0, 0, 0, 0) else none) else (bif Nat.beq pc 1 then some (.istore 4, 3, 0, 0, 0, 0) else none)) else (bif Nat.ble pc 3 then (bif Nat.beq pc 3 then some (.iconst 0, 4, 0, 0, 0, 0) else none) else (bif Nat.ble pc 4 then (bif Nat.beq pc 4 then some (.istore 5, 6, 0, 0, 0, 0) else none) else (bif Nat.beq pc 6 then some (.iload 5, 8, 0, 0, 0, 0) else none)))) else (bif Nat.ble pc 12 then (bif Nat.ble pc 8 then (bif Nat.beq pc 8 then some (.iload_n 2, 9, 0, 0, 0, 0) else none) else (bif Nat.ble pc 9 then (bif Nat.beq pc 9 then some (.if_icmp .ge 25, 12, 34, 0, 0, 0) else none) else (bif Nat.beq pc 12 then some (.iload 4, 14, 0, 0, 0, 0) else none))) else (bif Nat.ble pc 14 then (bif Nat.beq pc 14 then some (.aload_n 0, 15, 0, 0, 0, 0) else none) else (bif Nat.ble pc 15 then (bif Nat.beq pc 15 then some (.getfield 7, 18, 0, 7, 0, 607) else none) else (bif Nat.beq pc 18 then some (.iload_n 1, 19, 0, 0, 0, 0) else none))))) else (bif Nat.ble pc 24 then (bif Nat.ble pc 20 then (bif Nat.ble pc 19 then (bif Nat.beq pc 19 then some (.iload_n 3, 20, 0, 0, 0, 0) else none) else (bif Nat.beq pc 20 then some (.iload 5, 22, 0, 0, 0, 0) else none)) else (bif Nat.ble pc 22 then (bif Nat.beq pc 22 then some (.imul, 23, 0, 0, 0, 0) else none) else (bif Nat.ble pc 23 then (bif Nat.beq pc 23 then some (.iadd, 24, 0, 0, 0, 0) else none) else (bif Nat.beq pc 24 then some (.iaload, 25, 0, 0, 0, 0) else none)))) else (bif Nat.ble pc 28 then (bif Nat.ble pc 25 then (bif Nat.beq pc 25 then some (.iadd, 26, 0, 0, 0, 0) else none) else (bif Nat.ble pc 26 then (bif Nat.beq pc 26 then some (.istore 4, 28, 0, 0, 0, 0) else none) else (bif Nat.beq pc 28 then some (.iinc 5 1, 31, 0, 0, 0, 0) else none))) else (bif Nat.ble pc 31 then (bif Nat.beq pc 31 then some (.goto (-25), 34, 6, 0, 0, 0) else none) else (bif Nat.ble pc 34 then (bif Nat.beq pc 34 then some (.iload 4, 36, 0, 0, 0, 0) else none) else (bif Nat.beq pc 36 then some (.ireturn, 37, 0, 0, 0, 0) else none))))))
set_option maxRecDepth 100000 in
def fp_k128 (pc : Nat) : Option FpE := (bif Nat.ble pc 37 then (bif Nat.ble pc 17 then (bif Nat.ble pc 5 then (bif Nat.ble pc 1 then (bif Nat.ble pc 0 then (bif Nat.beq pc 0 then some (.iconst 0, 1, 0, 0, 0, 0) else none) else (bif Nat.beq pc 1 then some (.istore_n 3, 2, 0, 0, 0, 0) else none)) else (bif Nat.ble pc 2 then (bif Nat.beq pc 2 then some (.iconst 0, 3, 0, 0, 0, 0) else none) else (bif Nat.ble pc 3 then (bif Nat.beq pc 3 then some (.istore 4, 5, 0, 0, 0, 0) else none) else (bif Nat.beq pc 5 then some (.iload 4, 7, 0, 0, 0, 0) else none)))) else (bif Nat.ble pc 11 then (bif Nat.ble pc 7 then (bif Nat.beq pc 7 then some (.aload_n 0, 8, 0, 0, 0, 0) else none) else (bif Nat.ble pc 8 then (bif Nat.beq pc 8 then some (.getfield 7, 11, 0, 7, 0, 607) else none) else (bif Nat.beq pc 11 then some (.bipush 127, 13, 0, 0, 0, 0) else none))) else (bif Nat.ble pc 13 then (bif Nat.beq pc 13 then some (.iaload, 14, 0, 0, 0, 0) else none) else (bif Nat.ble pc 14 then (bif Nat.beq pc 14 then some (.if_icmp .ge 64, 17, 78, 0, 0, 0) else none) else (bif Nat.beq pc 17 then some (.aload_n 0, 18, 0, 0, 0, 0) else none))))) else (bif Nat.ble pc 28 then (bif Nat.ble pc 22 then (bif Nat.ble pc 18 then (bif Nat.beq pc 18 then some (.getfield 7, 21, 0, 7, 0, 607) else none) else (bif Nat.ble pc 21 then (bif Nat.beq pc 21 then some (.iconst 0, 22, 0, 0, 0, 0) else none) else (bif Nat.beq pc 22 then some (.iload 4, 24, 0, 0, 0, 0) else none))) else (bif Nat.ble pc 24 then (bif Nat.beq pc 24 then some (.invokestatic 43, 27, 0, 92, 2, 682) else none) else (bif Nat.ble pc 27 then (bif Nat.beq pc 27 then some (.iconst 1, 28, 0, 0, 0, 0) else none) else (bif Nat.beq pc 28 then some (.iadd, 29, 0, 0, 0, 0) else none)))) else (bif Nat.ble pc 32 then (bif Nat.ble pc 29 then (bif Nat.beq pc 29 then some (.iaload, 30, 0, 0, 0, 0) else none) else (bif Nat.ble pc 30 then (bif Nat.beq pc 30 then some (.istore 5, 32, 0, 0, 0, 0) else none) else (bif Nat.beq pc 32 then some (.iload_n 3, 33, 0, 0, 0, 0) else none))) else (bif Nat.ble pc 33 then (bif Nat.beq pc 33 then some (.aload_n 0, 34, 0, 0, 0, 0) else none) else (bif Nat.ble pc 34 then (bif Nat.beq pc 34 then some (.getfield 7, 37, 0, 7, 0, 607) else none) else (bif Nat.beq pc 37 then some (.iconst 0, 38, 0, 0, 0, 0) else none)))))) else (bif Nat.ble pc 56 then (bif Nat.ble pc 45 then (bif Nat.ble pc 40 then (bif Nat.ble pc 38 then (bif Nat.beq pc 38 then some (.iload 4, 40, 0, 0, 0, 0) else none) else (bif Nat.beq pc 40 then some (.invokestatic 43, 43, 0, 92, 2, 682) else none)) else (bif Nat.ble pc 43 then (bif Nat.beq pc 43 then some (.iaload, 44, 0, 0, 0, 0) else none) else (bif Nat.ble pc 44 then (bif Nat.beq pc 44 then some (.iload_n 1, 45, 0, 0, 0, 0) else none) else (bif Nat.beq pc 45 then some (.if_icmp .ne 24, 48, 69, 0, 0, 0) else none)))) else (bif Nat.ble pc 50 then (bif Nat.ble pc 48 then (bif Nat.beq pc 48 then some (.iload_n 2, 49, 0, 0, 0, 0) else none) else (bif Nat.ble pc 49 then (bif Nat.beq pc 49 then some (.iconst 2, 50, 0, 0, 0, 0) else none) else (bif Nat.beq pc 50 then some (.if_icmp .eq 15, 53, 65, 0, 0, 0) else none))) else (bif Nat.ble pc 53 then (bif Nat.beq pc 53 then some (.iload 5, 55, 0, 0, 0, 0) else none) else (bif Nat.ble pc 55 then (bif Nat.beq pc 55 then some (.iconst 2, 56, 0, 0, 0, 0) else none) else (bif Nat.beq pc 56 then some (.if_icmp .eq 9, 59, 65, 0, 0, 0) else none))))) else (bif Nat.ble pc 69 then (bif Nat.ble pc 62 then (bif Nat.ble pc 59 then (bif Nat.beq pc 59 then some (.iload 5, 61, 0, 0, 0, 0) else none) else (bif Nat.ble pc 61 then (bif Nat.beq pc 61 then some (.iload_n 2, 62, 0, 0, 0, 0) else none) else (bif Nat.beq pc 62 then some (.if_icmp .ne 7, 65, 69, 0, 0, 0) else none))) else (bif Nat.ble pc 65 then (bif Nat.beq pc 65 then some (.iconst 1, 66, 0, 0, 0, 0) else none) else (bif Nat.ble pc 66 then (bif Nat.beq pc 66 then some (.goto 4, 69, 70, 0, 0, 0) else none) else (bif Nat.beq pc 69 then some (.iconst 0, 70, 0, 0, 0, 0) else none)))) else (bif Nat.ble pc 72 then (bif Nat.ble pc 70 then (bif Nat.beq pc 70 then some (.iadd, 71, 0, 0, 0, 0) else none) else (bif Nat.ble pc 71 then (bif Nat.beq pc 71 then some (.istore_n 3, 72, 0, 0, 0, 0) else none) else (bif Nat.beq pc 72 then some (.iinc 4 1, 75, 0, 0, 0, 0) else none))) else (bif Nat.ble pc 75 then (bif Nat.beq pc 75 then some (.goto (-70), 78, 5, 0, 0, 0) else none) else (bif Nat.ble pc 78 then (bif Nat.beq pc 78 then some (.iload_n 3, 79, 0, 0, 0, 0) else none) else (bif Nat.beq pc 79 then some (.ireturn, 80, 0, 0, 0, 0) else none)))))))
set_option maxRecDepth 100000 in
def fp_k129 (pc : Nat) : Option FpE := (bif Nat.ble pc 82 then (bif Nat.ble pc 60 then (bif Nat.ble pc 9 then (bif Nat.ble pc 2 then (bif Nat.ble pc 0 then (bif Nat.beq pc 0 then some (.aload_n 0, 1, 0, 0, 0, 0) else none) else (bif Nat.ble pc 1 then (bif Nat.beq pc 1 then some (.iload_n 1, 2, 0, 0, 0, 0) else none) else (bif Nat.beq pc 2 then some (.invokevirtual 66, 5, 7, 84, 2, 667) else none))) else (bif Nat.ble pc 5 then (bif Nat.beq pc 5 then some (.ifCond .ne 5, 8, 10, 0, 0, 0) else none) else (bif Nat.ble pc 8 then (bif Nat.beq pc 8 then some (.iconst (-1), 9, 0, 0, 0, 0) else none) else (bif Nat.beq pc 9 then some (.ireturn, 10, 0, 0, 0, 0) else none)))) else (bif Nat.ble pc 12 then (bif Nat.ble pc 10 then (bif Nat.beq pc 10 then some (.iconst 0, 11, 0, 0, 0, 0) else none) else (bif Nat.ble pc 11 then (bif Nat.beq pc 11 then some (.iload_n 1, 12, 0, 0, 0, 0) else none) else (bif Nat.beq pc 12 then some (.invokestatic 36, 15, 0, 90, 2, 671) else none))) else (bif Nat.ble pc 16 then (bif Nat.ble pc 15 then (bif Nat.beq pc 15 then some (.istore_n 3, 16, 0, 0, 0, 0) else none) else (bif Nat.beq pc 16 then some (.iload_n 2, 17, 0, 0, 0, 0) else none)) else (bif Nat.ble pc 17 then (bif Nat.beq pc 17 then some (.tableswitch 101 0 6 #[43, 49, 58, 68, 78, 85, 95], 60, 118, 6, 0, 0) else none) else (bif Nat.beq pc 60 then some (.aload_n 0, 61, 0, 0, 0, 0) else none))))) else (bif Nat.ble pc 70 then (bif Nat.ble pc 65 then (bif Nat.ble pc 61 then (bif Nat.beq pc 61 then some (.iload_n 1, 62, 0, 0, 0, 0) else none) else (bif Nat.ble pc 62 then (bif Nat.beq pc 62 then some (.invokevirtual 104, 65, 7, 95, 2, 753) else none) else (bif Nat.beq pc 65 then some (.ireturn, 66, 0, 0, 0, 0) else none))) else (bif Nat.ble pc 67 then (bif Nat.ble pc 66 then (bif Nat.beq pc 66 then some (.aload_n 0, 67, 0, 0, 0, 0) else none) else (bif Nat.beq pc 67 then some (.iload_n 3, 68, 0, 0, 0, 0) else none)) else (bif Nat.ble pc 68 then (bif Nat.beq pc 68 then some (.bipush 8, 70, 0, 0, 0, 0) else none) else (bif Nat.beq pc 70 then some (.iconst 1, 71, 0, 0, 0, 0) else none)))) else (bif Nat.ble pc 75 then (bif Nat.ble pc 71 then (bif Nat.beq pc 71 then some (.invokevirtual 125, 74, 7, 127, 4, 801) else none) else (bif Nat.ble pc 74 then (bif Nat.beq pc 74 then some (.ireturn, 75, 0, 0, 0, 0) else none) else (bif Nat.beq pc 75 then some (.aload_n 0, 76, 0, 0, 0, 0) else none))) else (bif Nat.ble pc 79 then (bif Nat.ble pc 76 then (bif Nat.beq pc 76 then some (.getfield 7, 79, 0, 7, 0, 607) else none) else (bif Nat.beq pc 79 then some (.iload_n 3, 80, 0, 0, 0, 0) else none)) else (bif Nat.ble pc 80 then (bif Nat.beq pc 80 then some (.bipush 8, 82, 0, 0, 0, 0) else none) else (bif Nat.beq pc 82 then some (.iadd, 83, 0, 0, 0, 0) else none)))))) else (bif Nat.ble pc 98 then (bif Nat.ble pc 90 then (bif Nat.ble pc 85 then (bif Nat.ble pc 83 then (bif Nat.beq pc 83 then some (.iaload, 84, 0, 0, 0, 0) else none) else (bif Nat.ble pc 84 then (bif Nat.beq pc 84 then some (.ireturn, 85, 0, 0, 0, 0) else none) else (bif Nat.beq pc 85 then some (.aload_n 0, 86, 0, 0, 0, 0) else none))) else (bif Nat.ble pc 86 then (bif Nat.beq pc 86 then some (.getfield 7, 89, 0, 7, 0, 607) else none) else (bif Nat.ble pc 89 then (bif Nat.beq pc 89 then some (.iload_n 3, 90, 0, 0, 0, 0) else none) else (bif Nat.beq pc 90 then some (.bipush 9, 92, 0, 0, 0, 0) else none)))) else (bif Nat.ble pc 94 then (bif Nat.ble pc 92 then (bif Nat.beq pc 92 then some (.iadd, 93, 0, 0, 0, 0) else none) else (bif Nat.ble pc 93 then (bif Nat.beq pc 93 then some (.iaload, 94, 0, 0, 0, 0) else none) else (bif Nat.beq pc 94 then some (.ireturn, 95, 0, 0, 0, 0) else none))) else (bif Nat.ble pc 96 then (bif Nat.ble pc 95 then (bif Nat.beq pc 95 then some (.aload_n 0, 96, 0, 0, 0, 0) else none) else (bif Nat.beq pc 96 then some (.iload_n 1, 97, 0, 0, 0, 0) else none)) else (bif Nat.ble pc 97 then (bif Nat.beq pc 97 then some (.iconst 2, 98, 0, 0, 0, 0) else none) else (bif Nat.beq pc 98 then some (.invokevirtual 128, 101, 7, 128, 3, 805) else none))))) else (bif Nat.ble pc 110 then (bif Nat.ble pc 103 then (bif Nat.ble pc 101 then (bif Nat.beq pc 101 then some (.ireturn, 102, 0, 0, 0, 0) else none) else (bif Nat.ble pc 102 then (bif Nat.beq pc 102 then some (.aload_n 0, 103, 0, 0, 0, 0) else none) else (bif Nat.beq pc 103 then some (.getfield 7, 106, 0, 7, 0, 607) else none))) else (bif Nat.ble pc 107 then (bif Nat.ble pc 106 then (bif Nat.beq pc 106 then some (.iload_n 3, 107, 0, 0, 0, 0) else none) else (bif Nat.beq pc 107 then some (.bipush 10, 109, 0, 0, 0, 0) else none)) else (bif Nat.ble pc 109 then (bif Nat.beq pc 109 then some (.iadd, 110, 0, 0, 0, 0) else none) else (bif Nat.beq pc 110 then some (.iaload, 111, 0, 0, 0, 0) else none)))) else (bif Nat.ble pc 113 then (bif Nat.ble pc 111 then (bif Nat.beq pc 111 then some (.ireturn, 112, 0, 0, 0, 0) else none) else (bif Nat.ble pc 112 then (bif Nat.beq pc 112 then some (.aload_n 0, 113, 0, 0, 0, 0) else none) else (bif Nat.beq pc 113 then some (.iload_n 1, 114, 0, 0, 0, 0) else none))) else (bif Nat.ble pc 117 then (bif Nat.ble pc 114 then (bif Nat.beq pc 114 then some (.invokevirtual 131, 117, 7, 94, 2, 809) else none) else (bif Nat.beq pc 117 then some (.ireturn, 118, 0, 0, 0, 0) else none)) else (bif Nat.ble pc 118 then (bif Nat.beq pc 118 then some (.bipush (-2), 120, 0, 0, 0, 0) else none) else (bif Nat.beq pc 120 then some (.ireturn, 121, 0, 0, 0, 0) else none)))))))
set_option maxRecDepth 100000 in
def fp_k130 (pc : Nat) : Option FpE := (bif Nat.ble pc 31 then (bif Nat.ble pc 15 then (bif Nat.ble pc 5 then (bif Nat.ble pc 1 then (bif Nat.ble pc 0 then (bif Nat.beq pc 0 then some (.aload_n 0, 1, 0, 0, 0, 0) else none) else (bif Nat.beq pc 1 then some (.iload_n 1, 2, 0, 0, 0, 0) else none)) else (bif Nat.ble pc 2 then (bif Nat.beq pc 2 then some (.invokevirtual 66, 5, 7, 84, 2, 667) else none) else (bif Nat.beq pc 5 then some (.ifCond .eq 13, 8, 18, 0, 0, 0) else none))) else (bif Nat.ble pc 9 then (bif Nat.ble pc 8 then (bif Nat.beq pc 8 then some (.iload_n 2, 9, 0, 0, 0, 0) else none) else (bif Nat.beq pc 9 then some (.iconst 0, 10, 0, 0, 0, 0) else none)) else (bif Nat.ble pc 10 then (bif Nat.beq pc 10 then some (.bipush 7, 12, 0, 0, 0, 0) else none) else (bif Nat.ble pc 12 then (bif Nat.beq pc 12 then some (.invokestatic 20, 15, 0, 83, 3, 633) else none) else (bif Nat.beq pc 15 then some (.ifCond .ne 5, 18, 20, 0, 0, 0) else none))))) else (bif Nat.ble pc 21 then (bif Nat.ble pc 19 then (bif Nat.ble pc 18 then (bif Nat.beq pc 18 then some (.iconst (-1), 19, 0, 0, 0, 0) else none) else (bif Nat.beq pc 19 then some (.ireturn, 20, 0, 0, 0, 0) else none)) else (bif Nat.ble pc 20 then (bif Nat.beq pc 20 then some (.iload_n 3, 21, 0, 0, 0, 0) else none) else (bif Nat.beq pc 21 then some (.iconst 0, 22, 0, 0, 0, 0) else none))) else (bif Nat.ble pc 24 then (bif Nat.ble pc 22 then (bif Nat.beq pc 22 then some (.bipush 7, 24, 0, 0, 0, 0) else none) else (bif Nat.beq pc 24 then some (.invokestatic 20, 27, 0, 83, 3, 633) else none)) else (bif Nat.ble pc 27 then (bif Nat.beq pc 27 then some (.ifCond .eq 29, 30, 56, 0, 0, 0) else none) else (bif Nat.ble pc 30 then (bif Nat.beq pc 30 then some (.aload_n 0, 31, 0, 0, 0, 0) else none) else (bif Nat.beq pc 31 then some (.getfield 7, 34, 0, 7, 0, 607) else none)))))) else (bif Nat.ble pc 46 then (bif Nat.ble pc 39 then (bif Nat.ble pc 35 then (bif Nat.ble pc 34 then (bif Nat.beq pc 34 then some (.iconst 0, 35, 0, 0, 0, 0) else none) else (bif Nat.beq pc 35 then some (.iload_n 1, 36, 0, 0, 0, 0) else none)) else (bif Nat.ble pc 36 then (bif Nat.beq pc 36 then some (.invokestatic 36, 39, 0, 90, 2, 671) else none) else (bif Nat.beq pc 39 then some (.iload_n 2, 40, 0, 0, 0, 0) else none))) else (bif Nat.ble pc 41 then (bif Nat.ble pc 40 then (bif Nat.beq pc 40 then some (.iadd, 41, 0, 0, 0, 0) else none) else (bif Nat.beq pc 41 then some (.iaload, 42, 0, 0, 0, 0) else none)) else (bif Nat.ble pc 42 then (bif Nat.beq pc 42 then some (.aload_n 0, 43, 0, 0, 0, 0) else none) else (bif Nat.ble pc 43 then (bif Nat.beq pc 43 then some (.getfield 7, 46, 0, 7, 0, 607) else none) else (bif Nat.beq pc 46 then some (.iconst 1, 47, 0, 0, 0, 0) else none))))) else (bif Nat.ble pc 50 then (bif Nat.ble pc 48 then (bif Nat.ble pc 47 then (bif Nat.beq pc 47 then some (.iaload, 48, 0, 0, 0, 0) else none) else (bif Nat.beq pc 48 then some (.iload_n 3, 49, 0, 0, 0, 0) else none)) else (bif Nat.ble pc 49 then (bif Nat.beq pc 49 then some (.iconst 2, 50, 0, 0, 0, 0) else none) else (bif Nat.beq pc 50 then some (.idiv, 51, 0, 0, 0, 0) else none))) else (bif Nat.ble pc 52 then (bif Nat.ble pc 51 then (bif Nat.beq pc 51 then some (.imul, 52, 0, 0, 0, 0) else none) else (bif Nat.beq pc 52 then some (.iadd, 53, 0, 0, 0, 0) else none)) else (bif Nat.ble pc 53 then (bif Nat.beq pc 53 then some (.goto 5, 56, 58, 0, 0, 0) else none) else (bif Nat.ble pc 56 then (bif Nat.beq pc 56 then some (.bipush (-2), 58, 0, 0, 0, 0) else none) else (bif Nat.beq pc 58 then some (.ireturn, 59, 0, 0, 0, 0) else none)))))))
set_option maxRecDepth 100000 in
def fp_k131 (pc : Nat) : Option FpE := (bif Nat.ble pc 17 then (bif Nat.ble pc 6 then (bif Nat.ble pc 3 then (bif Nat.ble pc 0 then (bif Nat.beq pc 0 then some (.bipush (-5), 2, 0, 0, 0, 0) else none) else (bif Nat.ble pc 2 then (bif Nat.beq pc 2 then some (.istore_n 2, 3, 0, 0, 0, 0) else none) else (bif Nat.beq pc 3 then some (.iconst 3, 4, 0, 0, 0, 0) else none))) else (bif Nat.ble pc 4 then (bif Nat.beq pc 4 then some (.istore_n 3, 5, 0, 0, 0, 0) else none) else (bif Nat.ble pc 5 then (bif Nat.beq pc 5 then some (.iload_n 3, 6, 0, 0, 0, 0) else none) else (bif Nat.beq pc 6 then some (.ifCond .lt 34, 9, 40, 0, 0, 0) else none)))) else (bif Nat.ble pc 13 then (bif Nat.ble pc 9 then (bif Nat.beq pc 9 then some (.iload_n 2, 10, 0, 0, 0, 0) else none) else (bif Nat.ble pc 10 then (bif Nat.beq pc 10 then some (.ifCond .ge 30, 13, 40, 0, 0, 0) else none) else (bif Nat.beq pc 13 then some (.iconst 1, 14, 0, 0, 0, 0) else none))) else (bif Nat.ble pc 15 then (bif Nat.ble pc 14 then (bif Nat.beq pc 14 then some (.iload_n 3, 15, 0, 0, 0, 0) else none) else (bif Nat.beq pc 15 then some (.ishl, 16, 0, 0, 0, 0) else none)) else (bif Nat.ble pc 16 then (bif Nat.beq pc 16 then some (.iload_n 1, 17, 0, 0, 0, 0) else none) else (bif Nat.beq pc 17 then some (.imul, 18, 0, 0, 0, 0) else none))))) else (bif Nat.ble pc 27 then (bif Nat.ble pc 22 then (bif Nat.ble pc 18 then (bif Nat.beq pc 18 then some (.aload_n 0, 19, 0, 0, 0, 0) else none) else (bif Nat.ble pc 19 then (bif Nat.beq pc 19 then some (.getfield 7, 22, 0, 7, 0, 607) else none) else (bif Nat.beq pc 22 then some (.iconst 2, 23, 0, 0, 0, 0) else none))) else (bif Nat.ble pc 23 then (bif Nat.beq pc 23 then some (.iaload, 24, 0, 0, 0, 0) else none) else (bif Nat.ble pc 24 then (bif Nat.beq pc 24 then some (.if_icmp .gt 7, 27, 31, 0, 0, 0) else none) else (bif Nat.beq pc 27 then some (.iload_n 3, 28, 0, 0, 0, 0) else none)))) else (bif Nat.ble pc 33 then (bif Nat.ble pc 28 then (bif Nat.beq pc 28 then some (.goto 5, 31, 33, 0, 0, 0) else none) else (bif Nat.ble pc 31 then (bif Nat.beq pc 31 then some (.bipush (-5), 33, 0, 0, 0, 0) else none) else (bif Nat.beq pc 33 then some (.istore_n 2, 34, 0, 0, 0, 0) else none))) else (bif Nat.ble pc 37 then (bif Nat.ble pc 34 then (bif Nat.beq pc 34 then some (.iinc 3 (-1), 37, 0, 0, 0, 0) else none) else (bif Nat.beq pc 37 then some (.goto (-32), 40, 5, 0, 0, 0) else none)) else (bif Nat.ble pc 40 then (bif Nat.beq pc 40 then some (.iload_n 2, 41, 0, 0, 0, 0) else none) else (bif Nat.beq pc 41 then some (.ireturn, 42, 0, 0, 0, 0) else none))))))
set_option maxRecDepth 100000 in
def fp_k132 (pc : Nat) : Option FpE := (bif Nat.ble pc 48 then (bif Nat.ble pc 10 then (bif Nat.ble pc 2 then (bif Nat.ble pc 0 then (bif Nat.beq pc 0 then some (.aload_n 0, 1, 0, 0, 0, 0) else none) else (bif Nat.ble pc 1 then (bif Nat.beq pc 1 then some (.iload_n 1, 2, 0, 0, 0, 0) else none) else (bif Nat.beq pc 2 then some (.invokevirtual 62, 5, 7, 85, 2, 655) else none))) else (bif Nat.ble pc 8 then (bif Nat.ble pc 5 then (bif Nat.beq pc 5 then some (.ifCond .ne 5, 8, 10, 0, 0, 0) else none) else (bif Nat.beq pc 8 then some (.iconst (-1), 9, 0, 0, 0, 0) else none)) else (bif Nat.ble pc 9 then (bif Nat.beq pc 9 then some (.ireturn, 10, 0, 0, 0, 0) else none) else (bif Nat.beq pc 10 then some (.iconst 0, 11, 0, 0, 0, 0) else none)))) else (bif Nat.ble pc 16 then (bif Nat.ble pc 12 then (bif Nat.ble pc 11 then (bif Nat.beq pc 11 then some (.iload_n 1, 12, 0, 0, 0, 0) else none) else (bif Nat.beq pc 12 then some (.invokestatic 56, 15, 0, 91, 2, 648) else none)) else (bif Nat.ble pc 15 then (bif Nat.beq pc 15 then some (.istore_n 3, 16, 0, 0, 0, 0) else none) else (bif Nat.beq pc 16 then some (.iload_n 2, 17, 0, 0, 0, 0) else none))) else (bif Nat.ble pc 44 then (bif Nat.ble pc 17 then (bif Nat.beq pc 17 then some (.tableswitch 49 0 2 #[27, 27, 36], 44, 66, 7, 0, 0) else none) else (bif Nat.beq pc 44 then some (.aload_n 0, 45, 0, 0, 0, 0) else none)) else (bif Nat.ble pc 45 then (bif Nat.beq pc 45 then some (.getfield 7, 48, 0, 7, 0, 607) else none) else (bif Nat.beq pc 48 then some (.iload_n 3, 49, 0, 0, 0, 0) else none))))) else (bif Nat.ble pc 55 then (bif Nat.ble pc 51 then (bif Nat.ble pc 49 then (bif Nat.beq pc 49 then some (.iload_n 2, 50, 0, 0, 0, 0) else none) else (bif Nat.ble pc 50 then (bif Nat.beq pc 50 then some (.iadd, 51, 0, 0, 0, 0) else none) else (bif Nat.beq pc 51 then some (.iaload, 52, 0, 0, 0, 0) else none))) else (bif Nat.ble pc 53 then (bif Nat.ble pc 52 then (bif Nat.beq pc 52 then some (.ireturn, 53, 0, 0, 0, 0) else none) else (bif Nat.beq pc 53 then some (.aload_n 0, 54, 0, 0, 0, 0) else none)) else (bif Nat.ble pc 54 then (bif Nat.beq pc 54 then some (.aload_n 0, 55, 0, 0, 0, 0) else none) else (bif Nat.beq pc 55 then some (.getfield 7, 58, 0, 7, 0, 607) else none)))) else (bif Nat.ble pc 61 then (bif Nat.ble pc 59 then (bif Nat.ble pc 58 then (bif Nat.beq pc 58 then some (.iload_n 3, 59, 0, 0, 0, 0) else none) else (bif Nat.beq pc 59 then some (.iconst 1, 60, 0, 0, 0, 0) else none)) else (bif Nat.ble pc 60 then (bif Nat.beq pc 60 then some (.iadd, 61, 0, 0, 0, 0) else none) else (bif Nat.beq pc 61 then some (.iaload, 62, 0, 0, 0, 0) else none))) else (bif Nat.ble pc 65 then (bif Nat.ble pc 62 then (bif Nat.beq pc 62 then some (.invokevirtual 134, 65, 7, 131, 2, 821) else none) else (bif Nat.beq pc 65 then some (.ireturn, 66, 0, 0, 0, 0) else none)) else (bif Nat.ble pc 66 then (bif Nat.beq pc 66 then some (.bipush (-2), 68, 0, 0, 0, 0) else none) else (bif Nat.beq pc 68 then some (.ireturn, 69, 0, 0, 0, 0) else none))))))
set_option maxRecDepth 100000 in
def fp_k133 (pc : Nat) : Option FpE := (bif Nat.ble pc 49 then (bif Nat.ble pc 10 then (bif Nat.ble pc 2 then (bif Nat.ble pc 0 then (bif Nat.beq pc 0 then some (.aload_n 0, 1, 0, 0, 0, 0) else none) else (bif Nat.ble pc 1 then (bif Nat.beq pc 1 then some (.iload_n 1, 2, 0, 0, 0, 0) else none) else (bif Nat.beq pc 2 then some (.invokevirtual 98, 5, 7, 86, 2, 713) else none))) else (bif Nat.ble pc 8 then (bif Nat.ble pc 5 then (bif Nat.beq pc 5 then some (.ifCond .ne 5, 8, 10, 0, 0, 0) else none) else (bif Nat.beq pc 8 then some (.iconst (-1), 9, 0, 0, 0, 0) else none)) else (bif Nat.ble pc 9 then (bif Nat.beq pc 9 then some (.ireturn, 10, 0, 0, 0, 0) else none) else (bif Nat.beq pc 10 then some (.iload_n 2, 11, 0, 0, 0, 0) else none)))) else (bif Nat.ble pc 41 then (bif Nat.ble pc 11 then (bif Nat.beq pc 11 then some (.tableswitch 57 0 3 #[29, 29, 29, 42], 40, 68, 8, 0, 0) else none) else (bif Nat.ble pc 40 then (bif Nat.beq pc 40 then some (.aload_n 0, 41, 0, 0, 0, 0) else none) else (bif Nat.beq pc 41 then some (.getfield 7, 44, 0, 7, 0, 607) else none))) else (bif Nat.ble pc 45 then (bif Nat.ble pc 44 then (bif Nat.beq pc 44 then some (.iconst 0, 45, 0, 0, 0, 0) else none) else (bif Nat.beq pc 45 then some (.iload_n 1, 46, 0, 0, 0, 0) else none)) else (bif Nat.ble pc 46 then (bif Nat.beq pc 46 then some (.invokestatic 43, 49, 0, 92, 2, 682) else none) else (bif Nat.beq pc 49 then some (.iload_n 2, 50, 0, 0, 0, 0) else none))))) else (bif Nat.ble pc 56 then (bif Nat.ble pc 52 then (bif Nat.ble pc 50 then (bif Nat.beq pc 50 then some (.iadd, 51, 0, 0, 0, 0) else none) else (bif Nat.ble pc 51 then (bif Nat.beq pc 51 then some (.iaload, 52, 0, 0, 0, 0) else none) else (bif Nat.beq pc 52 then some (.ireturn, 53, 0, 0, 0, 0) else none))) else (bif Nat.ble pc 54 then (bif Nat.ble pc 53 then (bif Nat.beq pc 53 then some (.aload_n 0, 54, 0, 0, 0, 0) else none) else (bif Nat.beq pc 54 then some (.iconst 0, 55, 0, 0, 0, 0) else none)) else (bif Nat.ble pc 55 then (bif Nat.beq pc 55 then some (.iload_n 1, 56, 0, 0, 0, 0) else none) else (bif Nat.beq pc 56 then some (.invokevirtual 46, 59, 7, 96, 3, 721) else none)))) else (bif Nat.ble pc 63 then (bif Nat.ble pc 59 then (bif Nat.beq pc 59 then some (.ifCond .lt 7, 62, 66, 0, 0, 0) else none) else (bif Nat.ble pc 62 then (bif Nat.beq pc 62 then some (.iconst 1, 63, 0, 0, 0, 0) else none) else (bif Nat.beq pc 63 then some (.goto 4, 66, 67, 0, 0, 0) else none))) else (bif Nat.ble pc 67 then (bif Nat.ble pc 66 then (bif Nat.beq pc 66 then some (.iconst 0, 67, 0, 0, 0, 0) else none) else (bif Nat.beq pc 67 then some (.ireturn, 68, 0, 0, 0, 0) else none)) else (bif Nat.ble pc 68 then (bif Nat.beq pc 68 then some (.bipush (-2), 70, 0, 0, 0, 0) else none) else (bif Nat.beq pc 70 then some (.ireturn, 71, 0, 0, 0, 0) else none))))))
set_option maxRecDepth 100000 in
def fp_k134 (pc : Nat) : Option FpE := (bif Nat.ble pc 51 then (bif Nat.ble pc 23 then (bif Nat.ble pc 9 then (bif Nat.ble pc 2 then (bif Nat.ble pc 0 then (bif Nat.beq pc 0 then some (.aload_n 0, 1, 0, 0, 0, 0) else none) else (bif Nat.ble pc 1 then (bif Nat.beq pc 1 then some (.iload_n 1, 2, 0, 0, 0, 0) else none) else (bif Nat.beq pc 2 then some (.iload_n 2, 3, 0, 0, 0, 0) else none))) else (bif Nat.ble pc 4 then (bif Nat.ble pc 3 then (bif Nat.beq pc 3 then some (.iload_n 3, 4, 0, 0, 0, 0) else none) else (bif Nat.beq pc 4 then some (.invokevirtual 113, 7, 7, 116, 4, 745) else none)) else (bif Nat.ble pc 7 then (bif Nat.beq pc 7 then some (.istore 5, 9, 0, 0, 0, 0) else none) else (bif Nat.beq pc 9 then some (.iload 5, 11, 0, 0, 0, 0) else none)))) else (bif Nat.ble pc 18 then (bif Nat.ble pc 14 then (bif Nat.ble pc 11 then (bif Nat.beq pc 11 then some (.ifCond .le 9, 14, 20, 0, 0, 0) else none) else (bif Nat.beq pc 14 then some (.bipush (-10), 16, 0, 0, 0, 0) else none)) else (bif Nat.ble pc 16 then (bif Nat.beq pc 16 then some (.iload 5, 18, 0, 0, 0, 0) else none) else (bif Nat.beq pc 18 then some (.isub, 19, 0, 0, 0, 0) else none))) else (bif Nat.ble pc 20 then (bif Nat.ble pc 19 then (bif Nat.beq pc 19 then some (.ireturn, 20, 0, 0, 0, 0) else none) else (bif Nat.beq pc 20 then some (.iload 4, 22, 0, 0, 0, 0) else none)) else (bif Nat.ble pc 22 then (bif Nat.beq pc 22 then some (.iconst 3, 23, 0, 0, 0, 0) else none) else (bif Nat.beq pc 23 then some (.if_icmp .ge 47, 26, 70, 0, 0, 0) else none))))) else (bif Nat.ble pc 36 then (bif Nat.ble pc 28 then (bif Nat.ble pc 26 then (bif Nat.beq pc 26 then some (.aload_n 0, 27, 0, 0, 0, 0) else none) else (bif Nat.ble pc 27 then (bif Nat.beq pc 27 then some (.iload_n 1, 28, 0, 0, 0, 0) else none) else (bif Nat.beq pc 28 then some (.iload_n 3, 29, 0, 0, 0, 0) else none))) else (bif Nat.ble pc 32 then (bif Nat.ble pc 29 then (bif Nat.beq pc 29 then some (.invokevirtual 107, 32, 7, 115, 3, 749) else none) else (bif Nat.beq pc 32 then some (.istore 6, 34, 0, 0, 0, 0) else none)) else (bif Nat.ble pc 34 then (bif Nat.beq pc 34 then some (.iload 4, 36, 0, 0, 0, 0) else none) else (bif Nat.beq pc 36 then some (.ifCond .ne 9, 39, 45, 0, 0, 0) else none)))) else (bif Nat.ble pc 42 then (bif Nat.ble pc 40 then (bif Nat.ble pc 39 then (bif Nat.beq pc 39 then some (.iconst 1, 40, 0, 0, 0, 0) else none) else (bif Nat.beq pc 40 then some (.iload_n 3, 41, 0, 0, 0, 0) else none)) else (bif Nat.ble pc 41 then (bif Nat.beq pc 41 then some (.ishl, 42, 0, 0, 0, 0) else none) else (bif Nat.beq pc 42 then some (.goto 27, 45, 69, 0, 0, 0) else none))) else (bif Nat.ble pc 47 then (bif Nat.ble pc 45 then (bif Nat.beq pc 45 then some (.iload 4, 47, 0, 0, 0, 0) else none) else (bif Nat.beq pc 47 then some (.iconst 1, 48, 0, 0, 0, 0) else none)) else (bif Nat.ble pc 48 then (bif Nat.beq pc 48 then some (.if_icmp .ne 8, 51, 56, 0, 0, 0) else none) else (bif Nat.beq pc 51 then some (.iload 6, 53, 0, 0, 0, 0) else none)))))) else (bif Nat.ble pc 77 then (bif Nat.ble pc 65 then (bif Nat.ble pc 57 then (bif Nat.ble pc 53 then (bif Nat.beq pc 53 then some (.goto 16, 56, 69, 0, 0, 0) else none) else (bif Nat.ble pc 56 then (bif Nat.beq pc 56 then some (.aload_n 0, 57, 0, 0, 0, 0) else none) else (bif Nat.beq pc 57 then some (.getfield 7, 60, 0, 7, 0, 607) else none))) else (bif Nat.ble pc 61 then (bif Nat.ble pc 60 then (bif Nat.beq pc 60 then some (.iconst 0, 61, 0, 0, 0, 0) else none) else (bif Nat.beq pc 61 then some (.iload_n 2, 62, 0, 0, 0, 0) else none)) else (bif Nat.ble pc 62 then (bif Nat.beq pc 62 then some (.invokestatic 56, 65, 0, 91, 2, 648) else none) else (bif Nat.beq pc 65 then some (.iaload, 66, 0, 0, 0, 0) else none)))) else (bif Nat.ble pc 70 then (bif Nat.ble pc 68 then (bif Nat.ble pc 66 then (bif Nat.beq pc 66 then some (.iload 6, 68, 0, 0, 0, 0) else none) else (bif Nat.beq pc 68 then some (.isub, 69, 0, 0, 0, 0) else none)) else (bif Nat.ble pc 69 then (bif Nat.beq pc 69 then some (.ireturn, 70, 0, 0, 0, 0) else none) else (bif Nat.beq pc 70 then some (.aload_n 0, 71, 0, 0, 0, 0) else none))) else (bif Nat.ble pc 72 then (bif Nat.ble pc 71 then (bif Nat.beq pc 71 then some (.iconst 0, 72, 0, 0, 0, 0) else none) else (bif Nat.beq pc 72 then some (.bipush 6, 74, 0, 0, 0, 0) else none)) else (bif Nat.ble pc 74 then (bif Nat.beq pc 74 then some (.invokevirtual 28, 77, 7, 87, 3, 640) else none) else (bif Nat.beq pc 77 then some (.aload_n 0, 78, 0, 0, 0, 0) else none))))) else (bif Nat.ble pc 89 then (bif Nat.ble pc 82 then (bif Nat.ble pc 78 then (bif Nat.beq pc 78 then some (.sipush 1020, 81, 0, 0, 0, 0) else none) else (bif Nat.ble pc 81 then (bif Nat.beq pc 81 then some (.iload_n 1, 82, 0, 0, 0, 0) else none) else (bif Nat.beq pc 82 then some (.iload_n 2, 83, 0, 0, 0, 0) else none))) else (bif Nat.ble pc 84 then (bif Nat.ble pc 83 then (bif Nat.beq pc 83 then some (.iload_n 3, 84, 0, 0, 0, 0) else none) else (bif Nat.beq pc 84 then some (.invokevirtual 117, 87, 7, 117, 5, 757) else none)) else (bif Nat.ble pc 87 then (bif Nat.beq pc 87 then some (.istore 6, 89, 0, 0, 0, 0) else none) else (bif Nat.beq pc 89 then some (.iload 4, 91, 0, 0, 0, 0) else none)))) else (bif Nat.ble pc 97 then (bif Nat.ble pc 92 then (bif Nat.ble pc 91 then (bif Nat.beq pc 91 then some (.iconst 3, 92, 0, 0, 0, 0) else none) else (bif Nat.beq pc 92 then some (.if_icmp .ne 8, 95, 100, 0, 0, 0) else none)) else (bif Nat.ble pc 95 then (bif Nat.beq pc 95 then some (.iload 6, 97, 0, 0, 0, 0) else none) else (bif Nat.beq pc 97 then some (.goto 10, 100, 107, 0, 0, 0) else none))) else (bif Nat.ble pc 101 then (bif Nat.ble pc 100 then (bif Nat.beq pc 100 then some (.aload_n 0, 101, 0, 0, 0, 0) else none) else (bif Nat.beq pc 101 then some (.sipush 1020, 104, 0, 0, 0, 0) else none)) else (bif Nat.ble pc 104 then (bif Nat.beq pc 104 then some (.invokevirtual 101, 107, 7, 99, 2, 737) else none) else (bif Nat.beq pc 107 then some (.ireturn, 108, 0, 0, 0, 0) else none)))))))
set_option maxRecDepth 100000 in
def fp_k135 (pc : Nat) : Option FpE := (bif Nat.ble pc 21 then (bif Nat.ble pc 10 then (bif Nat.ble pc 2 then (bif Nat.ble pc 0 then (bif Nat.beq pc 0 then some (.aload_n 0, 1, 0, 0, 0, 0) else none) else (bif Nat.ble pc 1 then (bif Nat.beq pc 1 then some (.iload_n 1, 2, 0, 0, 0, 0) else none) else (bif Nat.beq pc 2 then some (.invokevirtual 66, 5, 7, 84, 2, 667) else none))) else (bif Nat.ble pc 8 then (bif Nat.ble pc 5 then (bif Nat.beq pc 5 then some (.ifCond .eq 11, 8, 16, 0, 0, 0) else none) else (bif Nat.beq pc 8 then some (.aload_n 0, 9, 0, 0, 0, 0) else none)) else (bif Nat.ble pc 9 then (bif Nat.beq pc 9 then some (.iload_n 2, 10, 0, 0, 0, 0) else none) else (bif Nat.beq pc 10 then some (.invokevirtual 62, 13, 7, 85, 2, 655) else none)))) else (bif Nat.ble pc 17 then (bif Nat.ble pc 13 then (bif Nat.beq pc 13 then some (.ifCond .ne 5, 16, 18, 0, 0, 0) else none) else (bif Nat.ble pc 16 then (bif Nat.beq pc 16 then some (.iconst (-1), 17, 0, 0, 0, 0) else none) else (bif Nat.beq pc 17 then some (.ireturn, 18, 0, 0, 0, 0) else none))) else (bif Nat.ble pc 19 then (bif Nat.ble pc 18 then (bif Nat.beq pc 18 then some (.iload_n 3, 19, 0, 0, 0, 0) else none) else (bif Nat.beq pc 19 then some (.iconst 0, 20, 0, 0, 0, 0) else none)) else (bif Nat.ble pc 20 then (bif Nat.beq pc 20 then some (.iconst 3, 21, 0, 0, 0, 0) else none) else (bif Nat.beq pc 21 then some (.invokestatic 20, 24, 0, 83, 3, 633) else none))))) else (bif Nat.ble pc 37 then (bif Nat.ble pc 29 then (bif Nat.ble pc 24 then (bif Nat.beq pc 24 then some (.ifCond .eq 25, 27, 49, 0, 0, 0) else none) else (bif Nat.ble pc 27 then (bif Nat.beq pc 27 then some (.iload 4, 29, 0, 0, 0, 0) else none) else (bif Nat.beq pc 29 then some (.iconst 0, 30, 0, 0, 0, 0) else none))) else (bif Nat.ble pc 31 then (bif Nat.ble pc 30 then (bif Nat.beq pc 30 then some (.iconst 4, 31, 0, 0, 0, 0) else none) else (bif Nat.beq pc 31 then some (.invokestatic 20, 34, 0, 83, 3, 633) else none)) else (bif Nat.ble pc 34 then (bif Nat.beq pc 34 then some (.ifCond .eq 15, 37, 49, 0, 0, 0) else none) else (bif Nat.beq pc 37 then some (.aload_n 0, 38, 0, 0, 0, 0) else none)))) else (bif Nat.ble pc 41 then (bif Nat.ble pc 39 then (bif Nat.ble pc 38 then (bif Nat.beq pc 38 then some (.iload_n 1, 39, 0, 0, 0, 0) else none) else (bif Nat.beq pc 39 then some (.iload_n 2, 40, 0, 0, 0, 0) else none)) else (bif Nat.ble pc 40 then (bif Nat.beq pc 40 then some (.iload_n 3, 41, 0, 0, 0, 0) else none) else (bif Nat.beq pc 41 then some (.iload 4, 43, 0, 0, 0, 0) else none))) else (bif Nat.ble pc 46 then (bif Nat.ble pc 43 then (bif Nat.beq pc 43 then some (.invokevirtual 137, 46, 7, 134, 5, 833) else none) else (bif Nat.beq pc 46 then some (.goto 5, 49, 51, 0, 0, 0) else none)) else (bif Nat.ble pc 49 then (bif Nat.beq pc 49 then some (.bipush (-2), 51, 0, 0, 0, 0) else none) else (bif Nat.beq pc 51 then some (.ireturn, 52, 0, 0, 0, 0) else none))))))
set_option maxRecDepth 100000 in
def fp_k136 (pc : Nat) : Option FpE := (bif Nat.ble pc 47 then (bif Nat.ble pc 22 then (bif Nat.ble pc 10 then (bif Nat.ble pc 2 then (bif Nat.ble pc 0 then (bif Nat.beq pc 0 then some (.aload_n 0, 1, 0, 0, 0, 0) else none) else (bif Nat.ble pc 1 then (bif Nat.beq pc 1 then some (.iload_n 1, 2, 0, 0, 0, 0) else none) else (bif Nat.beq pc 2 then some (.invokevirtual 66, 5, 7, 84, 2, 667) else none))) else (bif Nat.ble pc 8 then (bif Nat.ble pc 5 then (bif Nat.beq pc 5 then some (.ifCond .ne 5, 8, 10, 0, 0, 0) else none) else (bif Nat.beq pc 8 then some (.iconst (-1), 9, 0, 0, 0, 0) else none)) else (bif Nat.ble pc 9 then (bif Nat.beq pc 9 then some (.ireturn, 10, 0, 0, 0, 0) else none) else (bif Nat.beq pc 10 then some (.iload_n 2, 11, 0, 0, 0, 0) else none)))) else (bif Nat.ble pc 13 then (bif Nat.ble pc 11 then (bif Nat.beq pc 11 then some (.iconst 0, 12, 0, 0, 0, 0) else none) else (bif Nat.ble pc 12 then (bif Nat.beq pc 12 then some (.iconst 3, 13, 0, 0, 0, 0) else none) else (bif Nat.beq pc 13 then some (.invokestatic 20, 16, 0, 83, 3, 633) else none))) else (bif Nat.ble pc 19 then (bif Nat.ble pc 16 then (bif Nat.beq pc 16 then some (.ifCond .ne 6, 19, 22, 0, 0, 0) else none) else (bif Nat.beq pc 19 then some (.bipush (-2), 21, 0, 0, 0, 0) else none)) else (bif Nat.ble pc 21 then (bif Nat.beq pc 21 then some (.ireturn, 22, 0, 0, 0, 0) else none) else (bif Nat.beq pc 22 then some (.bipush (-5), 24, 0, 0, 0, 0) else none))))) else (bif Nat.ble pc 33 then (bif Nat.ble pc 26 then (bif Nat.ble pc 24 then (bif Nat.beq pc 24 then some (.istore_n 3, 25, 0, 0, 0, 0) else none) else (bif Nat.ble pc 25 then (bif Nat.beq pc 25 then some (.iconst 0, 26, 0, 0, 0, 0) else none) else (bif Nat.beq pc 26 then some (.istore 4, 28, 0, 0, 0, 0) else none))) else (bif Nat.ble pc 29 then (bif Nat.ble pc 28 then (bif Nat.beq pc 28 then some (.iconst 0, 29, 0, 0, 0, 0) else none) else (bif Nat.beq pc 29 then some (.istore 5, 31, 0, 0, 0, 0) else none)) else (bif Nat.ble pc 31 then (bif Nat.beq pc 31 then some (.iload 5, 33, 0, 0, 0, 0) else none) else (bif Nat.beq pc 33 then some (.aload_n 0, 34, 0, 0, 0, 0) else none)))) else (bif Nat.ble pc 39 then (bif Nat.ble pc 34 then (bif Nat.beq pc 34 then some (.getfield 7, 37, 0, 7, 0, 607) else none) else (bif Nat.ble pc 37 then (bif Nat.beq pc 37 then some (.bipush 114, 39, 0, 0, 0, 0) else none) else (bif Nat.beq pc 39 then some (.iaload, 40, 0, 0, 0, 0) else none))) else (bif Nat.ble pc 43 then (bif Nat.ble pc 40 then (bif Nat.beq pc 40 then some (.if_icmp .ge 58, 43, 98, 0, 0, 0) else none) else (bif Nat.beq pc 43 then some (.aload_n 0, 44, 0, 0, 0, 0) else none)) else (bif Nat.ble pc 44 then (bif Nat.beq pc 44 then some (.getfield 7, 47, 0, 7, 0, 607) else none) else (bif Nat.beq pc 47 then some (.iconst 0, 48, 0, 0, 0, 0) else none)))))) else (bif Nat.ble pc 68 then (bif Nat.ble pc 57 then (bif Nat.ble pc 53 then (bif Nat.ble pc 48 then (bif Nat.beq pc 48 then some (.iload 5, 50, 0, 0, 0, 0) else none) else (bif Nat.ble pc 50 then (bif Nat.beq pc 50 then some (.invokestatic 56, 53, 0, 91, 2, 648) else none) else (bif Nat.beq pc 53 then some (.iaload, 54, 0, 0, 0, 0) else none))) else (bif Nat.ble pc 55 then (bif Nat.ble pc 54 then (bif Nat.beq pc 54 then some (.aload_n 0, 55, 0, 0, 0, 0) else none) else (bif Nat.beq pc 55 then some (.iload_n 1, 56, 0, 0, 0, 0) else none)) else (bif Nat.ble pc 56 then (bif Nat.beq pc 56 then some (.iload_n 2, 57, 0, 0, 0, 0) else none) else (bif Nat.beq pc 57 then some (.invokevirtual 107, 60, 7, 115, 3, 749) else none)))) else (bif Nat.ble pc 63 then (bif Nat.ble pc 60 then (bif Nat.beq pc 60 then some (.isub, 61, 0, 0, 0, 0) else none) else (bif Nat.ble pc 61 then (bif Nat.beq pc 61 then some (.istore 6, 63, 0, 0, 0, 0) else none) else (bif Nat.beq pc 63 then some (.aload_n 0, 64, 0, 0, 0, 0) else none))) else (bif Nat.ble pc 65 then (bif Nat.ble pc 64 then (bif Nat.beq pc 64 then some (.iload_n 1, 65, 0, 0, 0, 0) else none) else (bif Nat.beq pc 65 then some (.iload 5, 67, 0, 0, 0, 0) else none)) else (bif Nat.ble pc 67 then (bif Nat.beq pc 67 then some (.iload_n 2, 68, 0, 0, 0, 0) else none) else (bif Nat.beq pc 68 then some (.invokevirtual 113, 71, 7, 116, 4, 745) else none))))) else (bif Nat.ble pc 85 then (bif Nat.ble pc 75 then (bif Nat.ble pc 71 then (bif Nat.beq pc 71 then some (.ifCond .ne 21, 74, 92, 0, 0, 0) else none) else (bif Nat.ble pc 74 then (bif Nat.beq pc 74 then some (.iload_n 3, 75, 0, 0, 0, 0) else none) else (bif Nat.beq pc 75 then some (.ifCond .lt 10, 78, 85, 0, 0, 0) else none))) else (bif Nat.ble pc 80 then (bif Nat.ble pc 78 then (bif Nat.beq pc 78 then some (.iload 6, 80, 0, 0, 0, 0) else none) else (bif Nat.beq pc 80 then some (.iload 4, 82, 0, 0, 0, 0) else none)) else (bif Nat.ble pc 82 then (bif Nat.beq pc 82 then some (.if_icmp .ge 10, 85, 92, 0, 0, 0) else none) else (bif Nat.beq pc 85 then some (.iload 5, 87, 0, 0, 0, 0) else none)))) else (bif Nat.ble pc 90 then (bif Nat.ble pc 87 then (bif Nat.beq pc 87 then some (.istore_n 3, 88, 0, 0, 0, 0) else none) else (bif Nat.ble pc 88 then (bif Nat.beq pc 88 then some (.iload 6, 90, 0, 0, 0, 0) else none) else (bif Nat.beq pc 90 then some (.istore 4, 92, 0, 0, 0, 0) else none))) else (bif Nat.ble pc 95 then (bif Nat.ble pc 92 then (bif Nat.beq pc 92 then some (.iinc 5 1, 95, 0, 0, 0, 0) else none) else (bif Nat.beq pc 95 then some (.goto (-64), 98, 31, 0, 0, 0) else none)) else (bif Nat.ble pc 98 then (bif Nat.beq pc 98 then some (.iload_n 3, 99, 0, 0, 0, 0) else none) else (bif Nat.beq pc 99 then some (.ireturn, 100, 0, 0, 0, 0) else none)))))))
set_option maxRecDepth 100000 in
def fp_k137 (pc : Nat) : Option FpE := (bif Nat.ble pc 77 then (bif Nat.ble pc 40 then (bif Nat.ble pc 19 then (bif Nat.ble pc 9 then (bif Nat.ble pc 2 then (bif Nat.ble pc 0 then (bif Nat.beq pc 0 then some (.aload_n 0, 1, 0, 0, 0, 0) else none) else (bif Nat.ble pc 1 then (bif Nat.beq pc 1 then some (.iload_n 1, 2, 0, 0, 0, 0) else none) else (bif Nat.beq pc 2 then some (.invokevirtual 66, 5, 7, 84, 2, 667) else none))) else (bif Nat.ble pc 5 then (bif Nat.beq pc 5 then some (.ifCond .eq 11, 8, 16, 0, 0, 0) else none) else (bif Nat.ble pc 8 then (bif Nat.beq pc 8 then some (.aload_n 0, 9, 0, 0, 0, 0) else none) else (bif Nat.beq pc 9 then some (.iload_n 2, 10, 0, 0, 0, 0) else none)))) else (bif Nat.ble pc 16 then (bif Nat.ble pc 10 then (bif Nat.beq pc 10 then some (.invokevirtual 62, 13, 7, 85, 2, 655) else none) else (bif Nat.ble pc 13 then (bif Nat.beq pc 13 then some (.ifCond .ne 5, 16, 18, 0, 0, 0) else none) else (bif Nat.beq pc 16 then some (.iconst (-1), 17, 0, 0, 0, 0) else none))) else (bif Nat.ble pc 17 then (bif Nat.beq pc 17 then some (.ireturn, 18, 0, 0, 0, 0) else none) else (bif Nat.ble pc 18 then (bif Nat.beq pc 18 then some (.iconst 0, 19, 0, 0, 0, 0) else none) else (bif Nat.beq pc 19 then some (.iload_n 1, 20, 0, 0, 0, 0) else none))))) else (bif Nat.ble pc 29 then (bif Nat.ble pc 24 then (bif Nat.ble pc 20 then (bif Nat.beq pc 20 then some (.invokestatic 36, 23, 0, 90, 2, 671) else none) else (bif Nat.ble pc 23 then (bif Nat.beq pc 23 then some (.istore_n 3, 24, 0, 0, 0, 0) else none) else (bif Nat.beq pc 24 then some (.iconst 0, 25, 0, 0, 0, 0) else none))) else (bif Nat.ble pc 25 then (bif Nat.beq pc 25 then some (.istore 4, 27, 0, 0, 0, 0) else none) else (bif Nat.ble pc 27 then (bif Nat.beq pc 27 then some (.iload 4, 29, 0, 0, 0, 0) else none) else (bif Nat.beq pc 29 then some (.iconst 4, 30, 0, 0, 0, 0) else none)))) else (bif Nat.ble pc 34 then (bif Nat.ble pc 30 then (bif Nat.beq pc 30 then some (.if_icmp .ge 137, 33, 167, 0, 0, 0) else none) else (bif Nat.ble pc 33 then (bif Nat.beq pc 33 then some (.iconst 1, 34, 0, 0, 0, 0) else none) else (bif Nat.beq pc 34 then some (.iload 4, 36, 0, 0, 0, 0) else none))) else (bif Nat.ble pc 37 then (bif Nat.ble pc 36 then (bif Nat.beq pc 36 then some (.ishl, 37, 0, 0, 0, 0) else none) else (bif Nat.beq pc 37 then some (.istore 5, 39, 0, 0, 0, 0) else none)) else (bif Nat.ble pc 39 then (bif Nat.beq pc 39 then some (.aload_n 0, 40, 0, 0, 0, 0) else none) else (bif Nat.beq pc 40 then some (.getfield 7, 43, 0, 7, 0, 607) else none)))))) else (bif Nat.ble pc 56 then (bif Nat.ble pc 50 then (bif Nat.ble pc 46 then (bif Nat.ble pc 43 then (bif Nat.beq pc 43 then some (.iload_n 3, 44, 0, 0, 0, 0) else none) else (bif Nat.ble pc 44 then (bif Nat.beq pc 44 then some (.bipush 8, 46, 0, 0, 0, 0) else none) else (bif Nat.beq pc 46 then some (.iadd, 47, 0, 0, 0, 0) else none))) else (bif Nat.ble pc 47 then (bif Nat.beq pc 47 then some (.iaload, 48, 0, 0, 0, 0) else none) else (bif Nat.ble pc 48 then (bif Nat.beq pc 48 then some (.iload 5, 50, 0, 0, 0, 0) else none) else (bif Nat.beq pc 50 then some (.iconst 1, 51, 0, 0, 0, 0) else none)))) else (bif Nat.ble pc 53 then (bif Nat.ble pc 51 then (bif Nat.beq pc 51 then some (.iadd, 52, 0, 0, 0, 0) else none) else (bif Nat.ble pc 52 then (bif Nat.beq pc 52 then some (.iconst 2, 53, 0, 0, 0, 0) else none) else (bif Nat.beq pc 53 then some (.idiv, 54, 0, 0, 0, 0) else none))) else (bif Nat.ble pc 54 then (bif Nat.beq pc 54 then some (.iadd, 55, 0, 0, 0, 0) else none) else (bif Nat.ble pc 55 then (bif Nat.beq pc 55 then some (.aload_n 0, 56, 0, 0, 0, 0) else none) else (bif Nat.beq pc 56 then some (.iload_n 1, 57, 0, 0, 0, 0) else none))))) else (bif Nat.ble pc 68 then (bif Nat.ble pc 61 then (bif Nat.ble pc 57 then (bif Nat.beq pc 57 then some (.iconst 0, 58, 0, 0, 0, 0) else none) else (bif Nat.ble pc 58 then (bif Nat.beq pc 58 then some (.invokevirtual 128, 61, 7, 128, 3, 805) else none) else (bif Nat.beq pc 61 then some (.if_icmp .lt 30, 64, 91, 0, 0, 0) else none))) else (bif Nat.ble pc 64 then (bif Nat.beq pc 64 then some (.aload_n 0, 65, 0, 0, 0, 0) else none) else (bif Nat.ble pc 65 then (bif Nat.beq pc 65 then some (.getfield 7, 68, 0, 7, 0, 607) else none) else (bif Nat.beq pc 68 then some (.iload_n 3, 69, 0, 0, 0, 0) else none)))) else (bif Nat.ble pc 72 then (bif Nat.ble pc 69 then (bif Nat.beq pc 69 then some (.bipush 9, 71, 0, 0, 0, 0) else none) else (bif Nat.ble pc 71 then (bif Nat.beq pc 71 then some (.iadd, 72, 0, 0, 0, 0) else none) else (bif Nat.beq pc 72 then some (.iaload, 73, 0, 0, 0, 0) else none))) else (bif Nat.ble pc 75 then (bif Nat.ble pc 73 then (bif Nat.beq pc 73 then some (.iload 5, 75, 0, 0, 0, 0) else none) else (bif Nat.beq pc 75 then some (.iconst 2, 76, 0, 0, 0, 0) else none)) else (bif Nat.ble pc 76 then (bif Nat.beq pc 76 then some (.idiv, 77, 0, 0, 0, 0) else none) else (bif Nat.beq pc 77 then some (.iadd, 78, 0, 0, 0, 0) else none))))))) else (bif Nat.ble pc 119 then (bif Nat.ble pc 98 then (bif Nat.ble pc 87 then (bif Nat.ble pc 80 then (bif Nat.ble pc 78 then (bif Nat.beq pc 78 then some (.aload_n 0, 79, 0, 0, 0, 0) else none) else (bif Nat.ble pc 79 then (bif Nat.beq pc 79 then some (.iload_n 1, 80, 0, 0, 0, 0) else none) else (bif Nat.beq pc 80 then some (.iconst 1, 81, 0, 0, 0, 0) else none))) else (bif Nat.ble pc 81 then (bif Nat.beq pc 81 then some (.invokevirtual 128, 84, 7, 128, 3, 805) else none) else (bif Nat.ble pc 84 then (bif Nat.beq pc 84 then some (.if_icmp .lt 7, 87, 91, 0, 0, 0) else none) else (bif Nat.beq pc 87 then some (.iconst 1, 88, 0, 0, 0, 0) else none)))) else (bif Nat.ble pc 92 then (bif Nat.ble pc 88 then (bif Nat.beq pc 88 then some (.goto 4, 91, 92, 0, 0, 0) else none) else (bif Nat.ble pc 91 then (bif Nat.beq pc 91 then some (.iconst 0, 92, 0, 0, 0, 0) else none) else (bif Nat.beq pc 92 then some (.istore 6, 94, 0, 0, 0, 0) else none))) else (bif Nat.ble pc 94 then (bif Nat.beq pc 94 then some (.aload_n 0, 95, 0, 0, 0, 0) else none) else (bif Nat.ble pc 95 then (bif Nat.beq pc 95 then some (.getfield 7, 98, 0, 7, 0, 607) else none) else (bif Nat.beq pc 98 then some (.iload_n 3, 99, 0, 0, 0, 0) else none))))) else (bif Nat.ble pc 105 then (bif Nat.ble pc 102 then (bif Nat.ble pc 99 then (bif Nat.beq pc 99 then some (.bipush 8, 101, 0, 0, 0, 0) else none) else (bif Nat.ble pc 101 then (bif Nat.beq pc 101 then some (.iadd, 102, 0, 0, 0, 0) else none) else (bif Nat.beq pc 102 then some (.iaload, 103, 0, 0, 0, 0) else none))) else (bif Nat.ble pc 103 then (bif Nat.beq pc 103 then some (.aload_n 0, 104, 0, 0, 0, 0) else none) else (bif Nat.ble pc 104 then (bif Nat.beq pc 104 then some (.iload_n 1, 105, 0, 0, 0, 0) else none) else (bif Nat.beq pc 105 then some (.iconst 0, 106, 0, 0, 0, 0) else none)))) else (bif Nat.ble pc 112 then (bif Nat.ble pc 106 then (bif Nat.beq pc 106 then some (.invokevirtual 128, 109, 7, 128, 3, 805) else none) else (bif Nat.ble pc 109 then (bif Nat.beq pc 109 then some (.if_icmp .lt 25, 112, 134, 0, 0, 0) else none) else (bif Nat.beq pc 112 then some (.aload_n 0, 113, 0, 0, 0, 0) else none))) else (bif Nat.ble pc 116 then (bif Nat.ble pc 113 then (bif Nat.beq pc 113 then some (.getfield 7, 116, 0, 7, 0, 607) else none) else (bif Nat.beq pc 116 then some (.iload_n 3, 117, 0, 0, 0, 0) else none)) else (bif Nat.ble pc 117 then (bif Nat.beq pc 117 then some (.bipush 9, 119, 0, 0, 0, 0) else none) else (bif Nat.beq pc 119 then some (.iadd, 120, 0, 0, 0, 0) else none)))))) else (bif Nat.ble pc 142 then (bif Nat.ble pc 127 then (bif Nat.ble pc 122 then (bif Nat.ble pc 120 then (bif Nat.beq pc 120 then some (.iaload, 121, 0, 0, 0, 0) else none) else (bif Nat.ble pc 121 then (bif Nat.beq pc 121 then some (.aload_n 0, 122, 0, 0, 0, 0) else none) else (bif Nat.beq pc 122 then some (.iload_n 1, 123, 0, 0, 0, 0) else none))) else (bif Nat.ble pc 123 then (bif Nat.beq pc 123 then some (.iconst 1, 124, 0, 0, 0, 0) else none) else (bif Nat.ble pc 124 then (bif Nat.beq pc 124 then some (.invokevirtual 128, 127, 7, 128, 3, 805) else none) else (bif Nat.beq pc 127 then some (.if_icmp .lt 7, 130, 134, 0, 0, 0) else none)))) else (bif Nat.ble pc 134 then (bif Nat.ble pc 130 then (bif Nat.beq pc 130 then some (.iconst 1, 131, 0, 0, 0, 0) else none) else (bif Nat.ble pc 131 then (bif Nat.beq pc 131 then some (.goto 4, 134, 135, 0, 0, 0) else none) else (bif Nat.beq pc 134 then some (.iconst 0, 135, 0, 0, 0, 0) else none))) else (bif Nat.ble pc 137 then (bif Nat.ble pc 135 then (bif Nat.beq pc 135 then some (.istore 7, 137, 0, 0, 0, 0) else none) else (bif Nat.beq pc 137 then some (.iload 6, 139, 0, 0, 0, 0) else none)) else (bif Nat.ble pc 139 then (bif Nat.beq pc 139 then some (.ifCond .ne 8, 142, 147, 0, 0, 0) else none) else (bif Nat.beq pc 142 then some (.iload 7, 144, 0, 0, 0, 0) else none))))) else (bif Nat.ble pc 152 then (bif Nat.ble pc 148 then (bif Nat.ble pc 144 then (bif Nat.beq pc 144 then some (.ifCond .eq 17, 147, 161, 0, 0, 0) else none) else (bif Nat.ble pc 147 then (bif Nat.beq pc 147 then some (.aload_n 0, 148, 0, 0, 0, 0) else none) else (bif Nat.beq pc 148 then some (.iload_n 1, 149, 0, 0, 0, 0) else none))) else (bif Nat.ble pc 149 then (bif Nat.beq pc 149 then some (.iload_n 2, 150, 0, 0, 0, 0) else none) else (bif Nat.ble pc 150 then (bif Nat.beq pc 150 then some (.iload 4, 152, 0, 0, 0, 0) else none) else (bif Nat.beq pc 152 then some (.invokevirtual 113, 155, 7, 116, 4, 745) else none)))) else (bif Nat.ble pc 160 then (bif Nat.ble pc 155 then (bif Nat.beq pc 155 then some (.ifCond .ne 6, 158, 161, 0, 0, 0) else none) else (bif Nat.ble pc 158 then (bif Nat.beq pc 158 then some (.iload 4, 160, 0, 0, 0, 0) else none) else (bif Nat.beq pc 160 then some (.ireturn, 161, 0, 0, 0, 0) else none))) else (bif Nat.ble pc 164 then (bif Nat.ble pc 161 then (bif Nat.beq pc 161 then some (.iinc 4 1, 164, 0, 0, 0, 0) else none) else (bif Nat.beq pc 164 then some (.goto (-137), 167, 27, 0, 0, 0) else none)) else (bif Nat.ble pc 167 then (bif Nat.beq pc 167 then some (.bipush (-5), 169, 0, 0, 0, 0) else none) else (bif Nat.beq pc 169 then some (.ireturn, 170, 0, 0, 0, 0) else none))))))))
set_option maxRecDepth 100000 in
def fp_k138 (pc : Nat) : Option FpE := (bif Nat.ble pc 14 then (bif Nat.ble pc 4 then (bif Nat.ble pc 1 then (bif Nat.ble pc 0 then (bif Nat.beq pc 0 then some (.aload_n 0, 1, 0, 0, 0, 0) else none) else (bif Nat.beq pc 1 then some (.bipush 12, 3, 0, 0, 0, 0) else none)) else (bif Nat.ble pc 3 then (bif Nat.beq pc 3 then some (.aload_n 0, 4, 0, 0, 0, 0) else none) else (bif Nat.beq pc 4 then some (.getfield 7, 7, 0, 7, 0, 607) else none))) else (bif Nat.ble pc 8 then (bif Nat.ble pc 7 then (bif Nat.beq pc 7 then some (.iconst 3, 8, 0, 0, 0, 0) else none) else (bif Nat.beq pc 8 then some (.iaload, 9, 0, 0, 0, 0) else none)) else (bif Nat.ble pc 9 then (bif Nat.beq pc 9 then some (.bipush 11, 11, 0, 0, 0, 0) else none) else (bif Nat.ble pc 11 then (bif Nat.beq pc 11 then some (.invokevirtual 125, 14, 7, 127, 4, 801) else none) else (bif Nat.beq pc 14 then some (.aload_n 0, 15, 0, 0, 0, 0) else none))))) else (bif Nat.ble pc 21 then (bif Nat.ble pc 17 then (bif Nat.ble pc 15 then (bif Nat.beq pc 15 then some (.bipush 13, 17, 0, 0, 0, 0) else none) else (bif Nat.beq pc 17 then some (.aload_n 0, 18, 0, 0, 0, 0) else none)) else (bif Nat.ble pc 18 then (bif Nat.beq pc 18 then some (.getfield 7, 21, 0, 7, 0, 607) else none) else (bif Nat.beq pc 21 then some (.iconst 3, 22, 0, 0, 0, 0) else none))) else (bif Nat.ble pc 23 then (bif Nat.ble pc 22 then (bif Nat.beq pc 22 then some (.iaload, 23, 0, 0, 0, 0) else none) else (bif Nat.beq pc 23 then some (.bipush 11, 25, 0, 0, 0, 0) else none)) else (bif Nat.ble pc 25 then (bif Nat.beq pc 25 then some (.invokevirtual 125, 28, 7, 127, 4, 801) else none) else (bif Nat.ble pc 28 then (bif Nat.beq pc 28 then some (.iadd, 29, 0, 0, 0, 0) else none) else (bif Nat.beq pc 29 then some (.ireturn, 30, 0, 0, 0, 0) else none))))))
set_option maxRecDepth 100000 in
def fp_k139 (pc : Nat) : Option FpE := (bif Nat.ble pc 126 then (bif Nat.ble pc 100 then (bif Nat.ble pc 88 then (bif Nat.ble pc 80 then (bif Nat.ble pc 0 then (bif Nat.beq pc 0 then some (.iload_n 1, 1, 0, 0, 0, 0) else none) else (bif Nat.ble pc 1 then (bif Nat.beq pc 1 then some (.tableswitch 174 0 15 #[79, 88, 95, 103, 111, 126, 131, 131, 131, 131, 145, 145, 145, 155, 164, 169], 80, 175, 9, 0, 0) else none) else (bif Nat.beq pc 80 then some (.aload_n 0, 81, 0, 0, 0, 0) else none))) else (bif Nat.ble pc 84 then (bif Nat.ble pc 81 then (bif Nat.beq pc 81 then some (.getfield 7, 84, 0, 7, 0, 607) else none) else (bif Nat.beq pc 84 then some (.sipush 164, 87, 0, 0, 0, 0) else none)) else (bif Nat.ble pc 87 then (bif Nat.beq pc 87 then some (.iaload, 88, 0, 0, 0, 0) else none) else (bif Nat.beq pc 88 then some (.ireturn, 89, 0, 0, 0, 0) else none)))) else (bif Nat.ble pc 94 then (bif Nat.ble pc 90 then (bif Nat.ble pc 89 then (bif Nat.beq pc 89 then some (.aload_n 0, 90, 0, 0, 0, 0) else none) else (bif Nat.beq pc 90 then some (.getfield 7, 93, 0, 7, 0, 607) else none)) else (bif Nat.ble pc 93 then (bif Nat.beq pc 93 then some (.iconst 3, 94, 0, 0, 0, 0) else none) else (bif Nat.beq pc 94 then some (.iaload, 95, 0, 0, 0, 0) else none))) else (bif Nat.ble pc 96 then (bif Nat.ble pc 95 then (bif Nat.beq pc 95 then some (.ireturn, 96, 0, 0, 0, 0) else none) else (bif Nat.beq pc 96 then some (.aload_n 0, 97, 0, 0, 0, 0) else none)) else (bif Nat.ble pc 97 then (bif Nat.beq pc 97 then some (.getfield 7, 100, 0, 7, 0, 607) else none) else (bif Nat.beq pc 100 then some (.bipush 114, 102, 0, 0, 0, 0) else none))))) else (bif Nat.ble pc 112 then (bif Nat.ble pc 105 then (bif Nat.ble pc 103 then (bif Nat.ble pc 102 then (bif Nat.beq pc 102 then some (.iaload, 103, 0, 0, 0, 0) else none) else (bif Nat.beq pc 103 then some (.ireturn, 104, 0, 0, 0, 0) else none)) else (bif Nat.ble pc 104 then (bif Nat.beq pc 104 then some (.aload_n 0, 105, 0, 0, 0, 0) else none) else (bif Nat.beq pc 105 then some (.getfield 7, 108, 0, 7, 0, 607) else none))) else (bif Nat.ble pc 110 then (bif Nat.ble pc 108 then (bif Nat.beq pc 108 then some (.bipush 127, 110, 0, 0, 0, 0) else none) else (bif Nat.beq pc 110 then some (.iaload, 111, 0, 0, 0, 0) else none)) else (bif Nat.ble pc 111 then (bif Nat.beq pc 111 then some (.ireturn, 112, 0, 0, 0, 0) else none) else (bif Nat.beq pc 112 then some (.aload_n 0, 113, 0, 0, 0, 0) else none)))) else (bif Nat.ble pc 119 then (bif Nat.ble pc 115 then (bif Nat.ble pc 113 then (bif Nat.beq pc 113 then some (.bipush 115, 115, 0, 0, 0, 0) else none) else (bif Nat.beq pc 115 then some (.aload_n 0, 116, 0, 0, 0, 0) else none)) else (bif Nat.ble pc 116 then (bif Nat.beq pc 116 then some (.getfield 7, 119, 0, 7, 0, 607) else none) else (bif Nat.beq pc 119 then some (.bipush 114, 121, 0, 0, 0, 0) else none))) else (bif Nat.ble pc 122 then (bif Nat.ble pc 121 then (bif Nat.beq pc 121 then some (.iaload, 122, 0, 0, 0, 0) else none) else (bif Nat.beq pc 122 then some (.iconst 2, 123, 0, 0, 0, 0) else none)) else (bif Nat.ble pc 123 then (bif Nat.beq pc 123 then some (.invokevirtual 125, 126, 7, 127, 4, 801) else none) else (bif Nat.beq pc 126 then some (.ireturn, 127, 0, 0, 0, 0) else none)))))) else (bif Nat.ble pc 151 then (bif Nat.ble pc 140 then (bif Nat.ble pc 132 then (bif Nat.ble pc 128 then (bif Nat.ble pc 127 then (bif Nat.beq pc 127 then some (.aload_n 0, 128, 0, 0, 0, 0) else none) else (bif Nat.beq pc 128 then some (.invokevirtual 140, 131, 7, 138, 1, 849) else none)) else (bif Nat.ble pc 131 then (bif Nat.beq pc 131 then some (.ireturn, 132, 0, 0, 0, 0) else none) else (bif Nat.beq pc 132 then some (.aload_n 0, 133, 0, 0, 0, 0) else none))) else (bif Nat.ble pc 136 then (bif Nat.ble pc 133 then (bif Nat.beq pc 133 then some (.getfield 7, 136, 0, 7, 0, 607) else none) else (bif Nat.beq pc 136 then some (.sipush 165, 139, 0, 0, 0, 0) else none)) else (bif Nat.ble pc 139 then (bif Nat.beq pc 139 then some (.iload_n 1, 140, 0, 0, 0, 0) else none) else (bif Nat.beq pc 140 then some (.iadd, 141, 0, 0, 0, 0) else none)))) else (bif Nat.ble pc 145 then (bif Nat.ble pc 143 then (bif Nat.ble pc 141 then (bif Nat.beq pc 141 then some (.bipush 6, 143, 0, 0, 0, 0) else none) else (bif Nat.beq pc 143 then some (.isub, 144, 0, 0, 0, 0) else none)) else (bif Nat.ble pc 144 then (bif Nat.beq pc 144 then some (.iaload, 145, 0, 0, 0, 0) else none) else (bif Nat.beq pc 145 then some (.ireturn, 146, 0, 0, 0, 0) else none))) else (bif Nat.ble pc 147 then (bif Nat.ble pc 146 then (bif Nat.beq pc 146 then some (.aload_n 0, 147, 0, 0, 0, 0) else none) else (bif Nat.beq pc 147 then some (.getfield 7, 150, 0, 7, 0, 607) else none)) else (bif Nat.ble pc 150 then (bif Nat.beq pc 150 then some (.iload_n 1, 151, 0, 0, 0, 0) else none) else (bif Nat.beq pc 151 then some (.bipush 10, 153, 0, 0, 0, 0) else none))))) else (bif Nat.ble pc 164 then (bif Nat.ble pc 156 then (bif Nat.ble pc 154 then (bif Nat.ble pc 153 then (bif Nat.beq pc 153 then some (.isub, 154, 0, 0, 0, 0) else none) else (bif Nat.beq pc 154 then some (.iaload, 155, 0, 0, 0, 0) else none)) else (bif Nat.ble pc 155 then (bif Nat.beq pc 155 then some (.ireturn, 156, 0, 0, 0, 0) else none) else (bif Nat.beq pc 156 then some (.aload_n 0, 157, 0, 0, 0, 0) else none))) else (bif Nat.ble pc 160 then (bif Nat.ble pc 157 then (bif Nat.beq pc 157 then some (.getfield 7, 160, 0, 7, 0, 607) else none) else (bif Nat.beq pc 160 then some (.sipush 169, 163, 0, 0, 0, 0) else none)) else (bif Nat.ble pc 163 then (bif Nat.beq pc 163 then some (.iaload, 164, 0, 0, 0, 0) else none) else (bif Nat.beq pc 164 then some (.ireturn, 165, 0, 0, 0, 0) else none)))) else (bif Nat.ble pc 170 then (bif Nat.ble pc 166 then (bif Nat.ble pc 165 then (bif Nat.beq pc 165 then some (.aload_n 0, 166, 0, 0, 0, 0) else none) else (bif Nat.beq pc 166 then some (.getfield 24, 169, 0, 7, 1, 608) else none)) else (bif Nat.ble pc 169 then (bif Nat.beq pc 169 then some (.ireturn, 170, 0, 0, 0, 0) else none) else (bif Nat.beq pc 170 then some (.aload_n 0, 171, 0, 0, 0, 0) else none))) else (bif Nat.ble pc 174 then (bif Nat.ble pc 171 then (bif Nat.beq pc 171 then some (.getfield 76, 174, 0, 7, 4, 611) else none) else (bif Nat.beq pc 174 then some (.ireturn, 175, 0, 0, 0, 0) else none)) else (bif Nat.ble pc 175 then (bif Nat.beq pc 175 then some (.bipush (-2), 177, 0, 0, 0, 0) else none) else (bif Nat.beq pc 177 then some (.ireturn, 178, 0, 0, 0, 0) else none)))))))
def fp_codeT (u pc : Nat) : Option FpE := (bif Nat.ble u 69 then (bif Nat.ble u 34 then (bif Nat.ble u 16 then (bif Nat.ble u 7 then (bif Nat.ble u 3 then (bif Nat.ble u 1 then (bif Nat.ble u 0 then (bif Nat.beq u 0 then fp_k0 pc else none) else (bif Nat.beq u 1 then fp_k1 pc else none)) else (bif Nat.ble u 2 then (bif Nat.beq u 2 then fp_k2 pc else none) else (bif Nat.beq u 3 then fp_k3 pc else none))) else (bif Nat.ble u 5 then (bif Nat.ble u 4 then (bif Nat.beq u 4 then fp_k4 pc else none) else (bif Nat.beq u 5 then fp_k5 pc else none)) else (bif Nat.ble u 6 then (bif Nat.beq u 6 then fp_k6 pc else none) else (bif Nat.beq u 7 then fp_k7 pc else none)))) else (bif Nat.ble u 11 then (bif Nat.ble u 9 then (bif Nat.ble u 8 then (bif Nat.beq u 8 then fp_k8 pc else none) else (bif Nat.beq u 9 then fp_k9 pc else none)) else (bif Nat.ble u 10 then (bif Nat.beq u 10 then fp_k10 pc else none) else (bif Nat.beq u 11 then fp_k11 pc else none))) else (bif Nat.ble u 13 then (bif Nat.ble u 12 then (bif Nat.beq u 12 then fp_k12 pc else none) else (bif Nat.beq u 13 then fp_k13 pc else none)) else (bif Nat.ble u 14 then (bif Nat.beq u 14 then fp_k14 pc else none) else (bif Nat.ble u 15 then (bif Nat.beq u 15 then fp_k15 pc else none) else (bif Nat.beq u 16 then fp_k16 pc else none)))))) else (bif Nat.ble u 25 then (bif Nat.ble u 20 then (bif Nat.ble u 18 then (bif Nat.ble u 17 then (bif Nat.beq u 17 then fp_k17 pc else none) else (bif Nat.beq u 18 then fp_k18 pc else none)) else (bif Nat.ble u 19 then (bif Nat.beq u 19 then fp_k19 pc else none) else (bif Nat.beq u 20 then fp_k20 pc else none))) else (bif Nat.ble u 22 then (bif Nat.ble u 21 then (bif Nat.beq u 21 then fp_k21 pc else none) else (bif Nat.beq u 22 then fp_k22 pc else none)) else (bif Nat.ble u 23 then (bif Nat.beq u 23 then fp_k23 pc else none) else (bif Nat.ble u 24 then (bif Nat.beq u 24 then fp_k24 pc else none) else (bif Nat.beq u 25 then fp_k25 pc else none))))) else (bif Nat.ble u 29 then (bif Nat.ble u 27 then (bif Nat.ble u 26 then (bif Nat.beq u 26 then fp_k26 pc else none) else (bif Nat.beq u 27 then fp_k27 pc else none)) else (bif Nat.ble u 28 then (bif Nat.beq u 28 then fp_k28 pc else none) else (bif Nat.beq u 29 then fp_k29 pc else none))) else (bif Nat.ble u 31 then (bif Nat.ble u 30 then (bif Nat.beq u 30 then fp_k30 pc else none) else (bif Nat.beq u 31 then fp_k31 pc else none)) else (bif Nat.ble u 32 then (bif Nat.beq u 32 then fp_k32 pc else none) else (bif Nat.ble u 33 then (bif Nat.beq u 33 then fp_k33 pc else none) else (bif Nat.beq u 34 then fp_k34 pc else none))))))) else (bif Nat.ble u 51 then (bif Nat.ble u 42 then (bif Nat.ble u 38 then (bif Nat.ble u 36 then (bif Nat.ble u 35 then (bif Nat.beq u 35 then fp_k35 pc else none) else (bif Nat.beq u 36 then fp_k36 pc else none)) else (bif Nat.ble u 37 then (bif Nat.beq u 37 then fp_k37 pc else none) else (bif Nat.beq u 38 then fp_k38 pc else none))) else (bif Nat.ble u 40 then (bif Nat.ble u 39 then (bif Nat.beq u 39 then fp_k39 pc else none) else (bif Nat.beq u 40 then fp_k40 pc else none)) else (bif Nat.ble u 41 then (bif Nat.beq u 41 then fp_k41 pc else none) else (bif Nat.beq u 42 then fp_k42 pc else none)))) else (bif Nat.ble u 46 then (bif Nat.ble u 44 then (bif Nat.ble u 43 then (bif Nat.beq u 43 then fp_k43 pc else none) else (bif Nat.beq u 44 then fp_k44 pc else none)) else (bif Nat.ble u 45 then (bif Nat.beq u 45 then fp_k45 pc else none) else (bif Nat.beq u 46 then fp_k46 pc else none))) else (bif Nat.ble u 48 then (bif Nat.ble u 47 then (bif Nat.beq u 47 then fp_k47 pc else none) else (bif Nat.beq u 48 then fp_k48 pc else none)) else (bif Nat.ble u 49 then (bif Nat.beq u 49 then fp_k49 pc else none) else (bif Nat.ble u 50 then (bif Nat.beq u 50 then fp_k50 pc else none) else (bif Nat.beq u 51 then fp_k51 pc else none)))))) else (bif Nat.ble u 60 then (bif Nat.ble u 55 then (bif Nat.ble u 53 then (bif Nat.ble u 52 then (bif Nat.beq u 52 then fp_k52 pc else none) else (bif Nat.beq u 53 then fp_k53 pc else none)) else (bif Nat.ble u 54 then (bif Nat.beq u 54 then fp_k54 pc else none) else (bif Nat.beq u 55 then fp_k55 pc else none))) else (bif Nat.ble u 57 then (bif Nat.ble u 56 then (bif Nat.beq u 56 then fp_k56 pc else none) else (bif Nat.beq u 57 then fp_k57 pc else none)) else (bif Nat.ble u 58 then (bif Nat.beq u 58 then fp_k58 pc else none) else (bif Nat.ble u 59 then (bif Nat.beq u 59 then fp_k59 pc else none) else (bif Nat.beq u 60 then fp_k60 pc else none))))) else (bif Nat.ble u 64 then (bif Nat.ble u 62 then (bif Nat.ble u 61 then (bif Nat.beq u 61 then fp_k61 pc else none) else (bif Nat.beq u 62 then fp_k62 pc else none)) else (bif Nat.ble u 63 then (bif Nat.beq u 63 then fp_k63 pc else none) else (bif Nat.beq u 64 then fp_k64 pc else none))) else (bif Nat.ble u 66 then (bif Nat.ble u 65 then (bif Nat.beq u 65 then fp_k65 pc else none) else (bif Nat.beq u 66 then fp_k66 pc else none)) else (bif Nat.ble u 67 then (bif Nat.beq u 67 then fp_k67 pc else none) else (bif Nat.ble u 68 then (bif Nat.beq u 68 then fp_k68 pc else none) else (bif Nat.beq u 69 then fp_k69 pc else none)))))))) else (bif Nat.ble u 104 then (bif Nat.ble u 86 then (bif Nat.ble u 77 then (bif Nat.ble u 73 then (bif Nat.ble u 71 then (bif Nat.ble u 70 then (bif Nat.beq u 70 then fp_k70 pc else none) else (bif Nat.beq u 71 then fp_k71 pc else none)) else (bif Nat.ble u 72 then (bif Nat.beq u 72 then fp_k72 pc else none) else (bif Nat.beq u 73 then fp_k73 pc else none))) else (bif Nat.ble u 75 then (bif Nat.ble u 74 then (bif Nat.beq u 74 then fp_k74 pc else none) else (bif Nat.beq u 75 then fp_k75 pc else none)) else (bif Nat.ble u 76 then (bif Nat.beq u 76 then fp_k76 pc else none) else (bif Nat.beq u 77 then fp_k77 pc else none)))) else (bif Nat.ble u 81 then (bif Nat.ble u 79 then (bif Nat.ble u 78 then (bif Nat.beq u 78 then fp_k78 pc else none) else (bif Nat.beq u 79 then fp_k79 pc else none)) else (bif Nat.ble u 80 then (bif Nat.beq u 80 then fp_k80 pc else none) else (bif Nat.beq u 81 then fp_k81 pc else none))) else (bif Nat.ble u 83 then (bif Nat.ble u 82 then (bif Nat.beq u 82 then fp_k82 pc else none) else (bif Nat.beq u 83 then fp_k83 pc else none)) else (bif Nat.ble u 84 then (bif Nat.beq u 84 then fp_k84 pc else none) else (bif Nat.ble u 85 then (bif Nat.beq u 85 then fp_k85 pc else none) else (bif Nat.beq u 86 then fp_k86 pc else none)))))) else (bif Nat.ble u 95 then (bif Nat.ble u 90 then (bif Nat.ble u 88 then (bif Nat.ble u 87 then (bif Nat.beq u 87 then fp_k87 pc else none) else (bif Nat.beq u 88 then fp_k88 pc else none)) else (bif Nat.ble u 89 then (bif Nat.beq u 89 then fp_k89 pc else none) else (bif Nat.beq u 90 then fp_k90 pc else none))) else (bif Nat.ble u 92 then (bif Nat.ble u 91 then (bif Nat.beq u 91 then fp_k91 pc else none) else (bif Nat.beq u 92 then fp_k92 pc else none)) else (bif Nat.ble u 93 then (bif Nat.beq u 93 then fp_k93 pc else none) else (bif Nat.ble u 94 then (bif Nat.beq u 94 then fp_k94 pc else none) else (bif Nat.beq u 95 then fp_k95 pc else none))))) else (bif Nat.ble u 99 then (bif Nat.ble u 97 then (bif Nat.ble u 96 then (bif Nat.beq u 96 then fp_k96 pc else none) else (bif Nat.beq u 97 then fp_k97 pc else none)) else (bif Nat.ble u 98 then (bif Nat.beq u 98 then fp_k98 pc else none) else (bif Nat.beq u 99 then fp_k99 pc else none))) else (bif Nat.ble u 101 then (bif Nat.ble u 100 then (bif Nat.beq u 100 then fp_k100 pc else none) else (bif Nat.beq u 101 then fp_k101 pc else none)) else (bif Nat.ble u 102 then (bif Nat.beq u 102 then fp_k102 pc else none) else (bif Nat.ble u 103 then (bif Nat.beq u 103 then fp_k103 pc else none) else (bif Nat.beq u 104 then fp_k104 pc else none))))))) else (bif Nat.ble u 121 then (bif Nat.ble u 112 then (bif Nat.ble u 108 then (bif Nat.ble u 106 then (bif Nat.ble u 105 then (bif Nat.beq u 105 then fp_k105 pc else none) else (bif Nat.beq u 106 then fp_k106 pc else none)) else (bif Nat.ble u 107 then (bif Nat.beq u 107 then fp_k107 pc else none) else (bif Nat.beq u 108 then fp_k108 pc else none))) else (bif Nat.ble u 110 then (bif Nat.ble u 109 then (bif Nat.beq u 109 then fp_k109 pc else none) else (bif Nat.beq u 110 then fp_k110 pc else none)) else (bif Nat.ble u 111 then (bif Nat.beq u 111 then fp_k111 pc else none) else (bif Nat.beq u 112 then fp_k112 pc else none)))) else (bif Nat.ble u 116 then (bif Nat.ble u 114 then (bif Nat.ble u 113 then (bif Nat.beq u 113 then fp_k113 pc else none) else (bif Nat.beq u 114 then fp_k114 pc else none)) else (bif Nat.ble u 115 then (bif Nat.beq u 115 then fp_k115 pc else none) else (bif Nat.beq u 116 then fp_k116 pc else none))) else (bif Nat.ble u 118 then (bif Nat.ble u 117 then (bif Nat.beq u 117 then fp_k117 pc else none) else (bif Nat.beq u 118 then fp_k118 pc else none)) else (bif Nat.ble u 119 then (bif Nat.beq u 119 then fp_k119 pc else none) else (bif Nat.ble u 120 then (bif Nat.beq u 120 then fp_k120 pc else none) else (bif Nat.beq u 121 then fp_k121 pc else none)))))) else (bif Nat.ble u 130 then (bif Nat.ble u 125 then (bif Nat.ble u 123 then (bif Nat.ble u 122 then (bif Nat.beq u 122 then fp_k122 pc else none) else (bif Nat.beq u 123 then fp_k123 pc else none)) else (bif Nat.ble u 124 then (bif Nat.beq u 124 then fp_k124 pc else none) else (bif Nat.beq u 125 then fp_k125 pc else none))) else (bif Nat.ble u 127 then (bif Nat.ble u 126 then (bif Nat.beq u 126 then fp_k126 pc else none) else (bif Nat.beq u 127 then fp_k127 pc else none)) else (bif Nat.ble u 128 then (bif Nat.beq u 128 then fp_k128 pc else none) else (bif Nat.ble u 129 then (bif Nat.beq u 129 then fp_k129 pc else none) else (bif Nat.beq u 130 then fp_k130 pc else none))))) else (bif Nat.ble u 134 then (bif Nat.ble u 132 then (bif Nat.ble u 131 then (bif Nat.beq u 131 then fp_k131 pc else none) else (bif Nat.beq u 132 then fp_k132 pc else none)) else (bif Nat.ble u 133 then (bif Nat.beq u 133 then fp_k133 pc else none) else (bif Nat.beq u 134 then fp_k134 pc else none))) else (bif Nat.ble u 136 then (bif Nat.ble u 135 then (bif Nat.beq u 135 then fp_k135 pc else none) else (bif Nat.beq u 136 then fp_k136 pc else none)) else (bif Nat.ble u 137 then (bif Nat.beq u 137 then fp_k137 pc else none) else (bif Nat.ble u 138 then (bif Nat.beq u 138 then fp_k138 pc else none) else (bif Nat.beq u 139 then fp_k139 pc else none)))))))))
def fp_code (u pc : Nat) : Option FpE := bif Nat.ble u 139 && Nat.ble pc 1000 then fp_codeT u pc else none
def fp_sw : List (List Nat) := [[148, 181, 214, 247, 290, 333, 346, 369, 382, 425, 474, 507, 532, 545, 558, 571, 584, 617, 650, 693, 726, 759, 812, 845, 878], [60, 66, 72, 79, 86, 98, 105], [44, 57, 70], [48, 55, 62, 69], [100, 105, 115], [80, 88, 99, 110, 121, 132, 143, 154, 162, 170, 178, 188, 198, 208, 216, 224], [60, 66, 75, 85, 95, 102, 112], [44, 44, 53], [40, 40, 40, 53], [80, 89, 96, 104, 112, 127, 132, 132, 132, 132, 146, 146, 146, 156, 165, 170]]
end
section
/-- the links of a nest mate's private methods -/
def fp_nw : List Cond := [.methodLinkNest RX4 76 yX6_layersOf RX6, .methodLinkNest RX4 104 yX6_leftLayersOf RX6, .methodLinkNest RX4 110 yX6_rightLayersOf RX6]
def fp_rx (k : Nat) : String := [RX0, RX1, RX2, RX3, RX4, RX5, RX6, RX7, RL].getD k ""
def fp_chkF (own : String) (idx a b w : Nat) : Bool := match fp_cl[a]? with
  | some (C, T, N) => decide (b < N) && decide ((T b).1 = C) && decide (lw_tbl[w]? = some (.fieldLink own idx C (T b).2.1 (T b).2.2.1)) && goodWord (.fieldLink own idx C (T b).2.1 (T b).2.2.1)
  | none => false
def fp_chkP (a b : Nat) : Bool := match fp_cl[a]? with
  | some (_, T, _) => decide ((T b).2.2.2 = false) && (bif (Nat.beq a 6 && Nat.beq b 3) || (Nat.beq a 7 && Nat.beq b 2) then decide ((T b).2.2.1 = "Z") else decide ((T b).2.2.1 = "I"))
  | none => false
def fp_chkC (own : String) (idx a b w tg : Nat) (stat : Bool) : Bool := match fp_M[a]? with
  | some (_, y, _, n, _, s) => (s == stat) && decide (1 ≤ a) && decide (b ≤ n) && (bif Nat.beq tg 0 then decide (lw_tbl[w]? = some (.methodLink own idx y)) && goodWord (.methodLink own idx y) && (!stat || decide (y.cls = own)) else stat && decide (Cond.methodLinkNest own idx y RX6 ∈ fp_nw)) && decide ((parseMethodDescriptor y.desc).map (fun d => d.parameters.length) = some (bif stat then b else b - 1)) && (stat || decide (1 ≤ b))
  | none => false
def fp_chkI (ci n : Nat) (r : Option FieldType) (pc : Nat) (e : FpE) : Bool :=
  let own := fp_rx ci
  match e with
  | (i, nx, tg, a, b, w) => match i with
    | .aload _ | .iload _ => decide (nx = pc + 2)
    | .bipush z => decide (nx = pc + 2) && decide (-128 ≤ z) && decide (z ≤ 127)
    | .sipush z => decide (nx = pc + 3) && decide (-32768 ≤ z) && decide (z ≤ 32767)
    | .iconst z => decide (nx = pc + 1) && decide (-1 ≤ z) && decide (z ≤ 5)
    | .istore_n k | .astore_n k => decide (nx = pc + 1) && decide (k.val < n)
    | .istore k | .astore k => decide (nx = pc + 2) && decide (k < n)
    | .iinc k _ => decide (nx = pc + 3) && decide (k < n)
    | .goto off | .ifCond _ off | .if_icmp _ off => decide (nx = pc + 3) && decide ((pc : Int) + off = (tg : Int))
    | .getfield idx => decide (nx = pc + 3) && fp_chkF own idx a b w
    | .putfield idx => decide (nx = pc + 3) && fp_chkF own idx a b w && fp_chkP a b
    | .invokevirtual idx => decide (nx = pc + 3) && fp_chkC own idx a b w 0 false && decide ((fp_M[a]?).map (fun q => q.1) = some tg)
    | .invokestatic idx => decide (nx = pc + 3) && (bif Nat.beq a 900 then decide (lw_tbl[w]? = some (.methodLink own idx arraycopyName)) && goodWord (.methodLink own idx arraycopyName)
        else bif Nat.beq a 901 then decide (lw_tbl[w]? = some (.methodLink own idx Lib.Math.max.name)) && goodWord (.methodLink own idx Lib.Math.max.name) else fp_chkC own idx a b w tg true)
    | .getstatic idx => decide (nx = pc + 3) && ((decide (a = 27) && decide (lw_tbl[w]? = some (.fieldLink own idx RX6 "LEAST_SETTING" "[I")) && goodWord (.fieldLink own idx RX6 "LEAST_SETTING" "[I")) || (decide (a = 28) && decide (lw_tbl[w]? = some (.fieldLink own idx RX6 "MOST_SETTING" "[I")) && goodWord (.fieldLink own idx RX6 "MOST_SETTING" "[I")))
    | .ireturn => decide (nx = pc + 1) && ((decide (b = 0) && decide (r = some .int)) || (decide (b = 1) && decide (r = some .boolean)))
    | .return_ => decide (nx = pc + 1) && decide (r = none)
    | .tableswitch df lo hi offs => decide ((pc : Int) + df = (tg : Int)) && decide (hi = lo + ((fp_sw.getD a []).length : Int) - 1) && (List.range (fp_sw.getD a []).length).all (fun k => decide ((offs[k]?).map (fun o => (pc : Int) + o) = some (((fp_sw.getD a []).getD k 0 : Nat) : Int)))
    | _ => decide (nx = pc + 1)
def fp_chk (u pc : Nat) (e : FpE) : Bool := match fp_M[u]? with
  | some (ci, _, c, n, r, _) => decide (decode c pc = .ok (e.1, e.2.1 - pc)) && decide (pc < e.2.1) && fp_chkI ci n r pc e
  | none => false
def fp_ckP (u pc : Nat) : Bool := match fp_codeT u pc with
  | some e => fp_chk u pc e
  | none => true
def fp_ckU (u : Nat) : Bool := (List.range 1001).all (fp_ckP u)
set_option maxRecDepth 100000 in
theorem fp_cl_0 : (List.range' 0 13).all (fp_ckP 0) = true := by decide +kernel
set_option maxRecDepth 100000 in
theorem fp_cl_13 : (List.range' 13 13).all (fp_ckP 0) = true := by decide +kernel
set_option maxRecDepth 100000 in
theorem fp_cl_26 : (List.range' 26 13).all (fp_ckP 0) = true := by decide +kernel
set_option maxRecDepth 100000 in
theorem fp_cl_39 : (List.range' 39 13).all (fp_ckP 0) = true := by decide +kernel
set_option maxRecDepth 100000 in
theorem fp_cl_52 : (List.range' 52 13).all (fp_ckP 0) = true := by decide +kernel
set_option maxRecDepth 100000 in
theorem fp_cl_65 : (List.range' 65 13).all (fp_ckP 0) = true := by decide +kernel
set_option maxRecDepth 100000 in
theorem fp_cl_78 : (List.range' 78 13).all (fp_ckP 0) = true := by decide +kernel
set_option maxRecDepth 100000 in
theorem fp_cl_91 : (List.range' 91 13).all (fp_ckP 0) = true := by decide +kernel
set_option maxRecDepth 100000 in
theorem fp_cl_104 : (List.range' 104 13).all (fp_ckP 0) = true := by decide +kernel
set_option maxRecDepth 100000 in
theorem fp_cl_117 : (List.range' 117 13).all (fp_ckP 0) = true := by decide +kernel
set_option maxRecDepth 100000 in
theorem fp_cl_130 : (List.range' 130 13).all (fp_ckP 0) = true := by decide +kernel
set_option maxRecDepth 100000 in
theorem fp_cl_143 : (List.range' 143 13).all (fp_ckP 0) = true := by decide +kernel
set_option maxRecDepth 100000 in
theorem fp_cl_156 : (List.range' 156 13).all (fp_ckP 0) = true := by decide +kernel
set_option maxRecDepth 100000 in
theorem fp_cl_169 : (List.range' 169 13).all (fp_ckP 0) = true := by decide +kernel
set_option maxRecDepth 100000 in
theorem fp_cl_182 : (List.range' 182 13).all (fp_ckP 0) = true := by decide +kernel
set_option maxRecDepth 100000 in
theorem fp_cl_195 : (List.range' 195 13).all (fp_ckP 0) = true := by decide +kernel
set_option maxRecDepth 100000 in
theorem fp_cl_208 : (List.range' 208 13).all (fp_ckP 0) = true := by decide +kernel
set_option maxRecDepth 100000 in
theorem fp_cl_221 : (List.range' 221 13).all (fp_ckP 0) = true := by decide +kernel
set_option maxRecDepth 100000 in
theorem fp_cl_234 : (List.range' 234 13).all (fp_ckP 0) = true := by decide +kernel
set_option maxRecDepth 100000 in
theorem fp_cl_247 : (List.range' 247 13).all (fp_ckP 0) = true := by decide +kernel
set_option maxRecDepth 100000 in
theorem fp_cl_260 : (List.range' 260 13).all (fp_ckP 0) = true := by decide +kernel
set_option maxRecDepth 100000 in
theorem fp_cl_273 : (List.range' 273 13).all (fp_ckP 0) = true := by decide +kernel
set_option maxRecDepth 100000 in
theorem fp_cl_286 : (List.range' 286 13).all (fp_ckP 0) = true := by decide +kernel
set_option maxRecDepth 100000 in
theorem fp_cl_299 : (List.range' 299 13).all (fp_ckP 0) = true := by decide +kernel
set_option maxRecDepth 100000 in
theorem fp_cl_312 : (List.range' 312 13).all (fp_ckP 0) = true := by decide +kernel
set_option maxRecDepth 100000 in
theorem fp_cl_325 : (List.range' 325 13).all (fp_ckP 0) = true := by decide +kernel
set_option maxRecDepth 100000 in
theorem fp_cl_338 : (List.range' 338 13).all (fp_ckP 0) = true := by decide +kernel
set_option maxRecDepth 100000 in
theorem fp_cl_351 : (List.range' 351 13).all (fp_ckP 0) = true := by decide +kernel
set_option maxRecDepth 100000 in
theorem fp_cl_364 : (List.range' 364 13).all (fp_ckP 0) = true := by decide +kernel
set_option maxRecDepth 100000 in
theorem fp_cl_377 : (List.range' 377 13).all (fp_ckP 0) = true := by decide +kernel
set_option maxRecDepth 100000 in
theorem fp_cl_390 : (List.range' 390 13).all (fp_ckP 0) = true := by decide +kernel
set_option maxRecDepth 100000 in
theorem fp_cl_403 : (List.range' 403 13).all (fp_ckP 0) = true := by decide +kernel
set_option maxRecDepth 100000 in
theorem fp_cl_416 : (List.range' 416 13).all (fp_ckP 0) = true := by decide +kernel
set_option maxRecDepth 100000 in
theorem fp_cl_429 : (List.range' 429 13).all (fp_ckP 0) = true := by decide +kernel
set_option maxRecDepth 100000 in
theorem fp_cl_442 : (List.range' 442 13).all (fp_ckP 0) = true := by decide +kernel
set_option maxRecDepth 100000 in
theorem fp_cl_455 : (List.range' 455 13).all (fp_ckP 0) = true := by decide +kernel
set_option maxRecDepth 100000 in
theorem fp_cl_468 : (List.range' 468 13).all (fp_ckP 0) = true := by decide +kernel
set_option maxRecDepth 100000 in
theorem fp_cl_481 : (List.range' 481 13).all (fp_ckP 0) = true := by decide +kernel
set_option maxRecDepth 100000 in
theorem fp_cl_494 : (List.range' 494 13).all (fp_ckP 0) = true := by decide +kernel
set_option maxRecDepth 100000 in
theorem fp_cl_507 : (List.range' 507 13).all (fp_ckP 0) = true := by decide +kernel
set_option maxRecDepth 100000 in
theorem fp_cl_520 : (List.range' 520 13).all (fp_ckP 0) = true := by decide +kernel
set_option maxRecDepth 100000 in
theorem fp_cl_533 : (List.range' 533 13).all (fp_ckP 0) = true := by decide +kernel
set_option maxRecDepth 100000 in
theorem fp_cl_546 : (List.range' 546 13).all (fp_ckP 0) = true := by decide +kernel
set_option maxRecDepth 100000 in
theorem fp_cl_559 : (List.range' 559 13).all (fp_ckP 0) = true := by decide +kernel
set_option maxRecDepth 100000 in
theorem fp_cl_572 : (List.range' 572 13).all (fp_ckP 0) = true := by decide +kernel
set_option maxRecDepth 100000 in
theorem fp_cl_585 : (List.range' 585 13).all (fp_ckP 0) = true := by decide +kernel
set_option maxRecDepth 100000 in
theorem fp_cl_598 : (List.range' 598 13).all (fp_ckP 0) = true := by decide +kernel
set_option maxRecDepth 100000 in
theorem fp_cl_611 : (List.range' 611 13).all (fp_ckP 0) = true := by decide +kernel
set_option maxRecDepth 100000 in
theorem fp_cl_624 : (List.range' 624 13).all (fp_ckP 0) = true := by decide +kernel
set_option maxRecDepth 100000 in
theorem fp_cl_637 : (List.range' 637 13).all (fp_ckP 0) = true := by decide +kernel
set_option maxRecDepth 100000 in
theorem fp_cl_650 : (List.range' 650 13).all (fp_ckP 0) = true := by decide +kernel
set_option maxRecDepth 100000 in
theorem fp_cl_663 : (List.range' 663 13).all (fp_ckP 0) = true := by decide +kernel
set_option maxRecDepth 100000 in
theorem fp_cl_676 : (List.range' 676 13).all (fp_ckP 0) = true := by decide +kernel
set_option maxRecDepth 100000 in
theorem fp_cl_689 : (List.range' 689 13).all (fp_ckP 0) = true := by decide +kernel
set_option maxRecDepth 100000 in
theorem fp_cl_702 : (List.range' 702 13).all (fp_ckP 0) = true := by decide +kernel
set_option maxRecDepth 100000 in
theorem fp_cl_715 : (List.range' 715 13).all (fp_ckP 0) = true := by decide +kernel
set_option maxRecDepth 100000 in
theorem fp_cl_728 : (List.range' 728 13).all (fp_ckP 0) = true := by decide +kernel
set_option maxRecDepth 100000 in
theorem fp_cl_741 : (List.range' 741 13).all (fp_ckP 0) = true := by decide +kernel
set_option maxRecDepth 100000 in
theorem fp_cl_754 : (List.range' 754 13).all (fp_ckP 0) = true := by decide +kernel
set_option maxRecDepth 100000 in
theorem fp_cl_767 : (List.range' 767 13).all (fp_ckP 0) = true := by decide +kernel
set_option maxRecDepth 100000 in
theorem fp_cl_780 : (List.range' 780 13).all (fp_ckP 0) = true := by decide +kernel
set_option maxRecDepth 100000 in
theorem fp_cl_793 : (List.range' 793 13).all (fp_ckP 0) = true := by decide +kernel
set_option maxRecDepth 100000 in
theorem fp_cl_806 : (List.range' 806 13).all (fp_ckP 0) = true := by decide +kernel
set_option maxRecDepth 100000 in
theorem fp_cl_819 : (List.range' 819 13).all (fp_ckP 0) = true := by decide +kernel
set_option maxRecDepth 100000 in
theorem fp_cl_832 : (List.range' 832 13).all (fp_ckP 0) = true := by decide +kernel
set_option maxRecDepth 100000 in
theorem fp_cl_845 : (List.range' 845 13).all (fp_ckP 0) = true := by decide +kernel
set_option maxRecDepth 100000 in
theorem fp_cl_858 : (List.range' 858 13).all (fp_ckP 0) = true := by decide +kernel
set_option maxRecDepth 100000 in
theorem fp_cl_871 : (List.range' 871 13).all (fp_ckP 0) = true := by decide +kernel
set_option maxRecDepth 100000 in
theorem fp_cl_884 : (List.range' 884 13).all (fp_ckP 0) = true := by decide +kernel
set_option maxRecDepth 100000 in
theorem fp_cl_897 : (List.range' 897 13).all (fp_ckP 0) = true := by decide +kernel
set_option maxRecDepth 100000 in
theorem fp_cl_910 : (List.range' 910 13).all (fp_ckP 0) = true := by decide +kernel
set_option maxRecDepth 100000 in
theorem fp_cl_923 : (List.range' 923 13).all (fp_ckP 0) = true := by decide +kernel
set_option maxRecDepth 100000 in
theorem fp_cl_936 : (List.range' 936 13).all (fp_ckP 0) = true := by decide +kernel
set_option maxRecDepth 100000 in
theorem fp_cl_949 : (List.range' 949 13).all (fp_ckP 0) = true := by decide +kernel
set_option maxRecDepth 100000 in
theorem fp_cl_962 : (List.range' 962 13).all (fp_ckP 0) = true := by decide +kernel
set_option maxRecDepth 100000 in
theorem fp_cl_975 : (List.range' 975 13).all (fp_ckP 0) = true := by decide +kernel
set_option maxRecDepth 100000 in
theorem fp_cl_988 : (List.range' 988 13).all (fp_ckP 0) = true := by decide +kernel
set_option maxRecDepth 100000 in
theorem fp_ck_1 : (List.range' 1 10).all fp_ckU = true := by decide +kernel
set_option maxRecDepth 100000 in
theorem fp_ck_11 : (List.range' 11 10).all fp_ckU = true := by decide +kernel
set_option maxRecDepth 100000 in
theorem fp_ck_21 : (List.range' 21 10).all fp_ckU = true := by decide +kernel
set_option maxRecDepth 100000 in
theorem fp_ck_31 : (List.range' 31 10).all fp_ckU = true := by decide +kernel
set_option maxRecDepth 100000 in
theorem fp_ck_41 : (List.range' 41 10).all fp_ckU = true := by decide +kernel
set_option maxRecDepth 100000 in
theorem fp_ck_51 : (List.range' 51 10).all fp_ckU = true := by decide +kernel
set_option maxRecDepth 100000 in
theorem fp_ck_61 : (List.range' 61 10).all fp_ckU = true := by decide +kernel
set_option maxRecDepth 100000 in
theorem fp_ck_71 : (List.range' 71 10).all fp_ckU = true := by decide +kernel
set_option maxRecDepth 100000 in
theorem fp_ck_81 : (List.range' 81 10).all fp_ckU = true := by decide +kernel
set_option maxRecDepth 100000 in
theorem fp_ck_91 : (List.range' 91 10).all fp_ckU = true := by decide +kernel
set_option maxRecDepth 100000 in
theorem fp_ck_101 : (List.range' 101 10).all fp_ckU = true := by decide +kernel
set_option maxRecDepth 100000 in
theorem fp_ck_111 : (List.range' 111 10).all fp_ckU = true := by decide +kernel
set_option maxRecDepth 100000 in
theorem fp_ck_121 : (List.range' 121 10).all fp_ckU = true := by decide +kernel
set_option maxRecDepth 100000 in
theorem fp_ck_131 : (List.range' 131 9).all fp_ckU = true := by decide +kernel
theorem fp_ck_0 : fp_ckU 0 = true := by
  refine List.all_eq_true.mpr (fun pc h => ?_)
  have h := List.mem_range.mp h
  by_cases h0 : pc < 13
  · exact List.all_eq_true.mp fp_cl_0 pc (List.mem_range'_1.mpr (by omega))
  by_cases h13 : pc < 26
  · exact List.all_eq_true.mp fp_cl_13 pc (List.mem_range'_1.mpr (by omega))
  by_cases h26 : pc < 39
  · exact List.all_eq_true.mp fp_cl_26 pc (List.mem_range'_1.mpr (by omega))
  by_cases h39 : pc < 52
  · exact List.all_eq_true.mp fp_cl_39 pc (List.mem_range'_1.mpr (by omega))
  by_cases h52 : pc < 65
  · exact List.all_eq_true.mp fp_cl_52 pc (List.mem_range'_1.mpr (by omega))
  by_cases h65 : pc < 78
  · exact List.all_eq_true.mp fp_cl_65 pc (List.mem_range'_1.mpr (by omega))
  by_cases h78 : pc < 91
  · exact List.all_eq_true.mp fp_cl_78 pc (List.mem_range'_1.mpr (by omega))
  by_cases h91 : pc < 104
  · exact List.all_eq_true.mp fp_cl_91 pc (List.mem_range'_1.mpr (by omega))
  by_cases h104 : pc < 117
  · exact List.all_eq_true.mp fp_cl_104 pc (List.mem_range'_1.mpr (by omega))
  by_cases h117 : pc < 130
  · exact List.all_eq_true.mp fp_cl_117 pc (List.mem_range'_1.mpr (by omega))
  by_cases h130 : pc < 143
  · exact List.all_eq_true.mp fp_cl_130 pc (List.mem_range'_1.mpr (by omega))
  by_cases h143 : pc < 156
  · exact List.all_eq_true.mp fp_cl_143 pc (List.mem_range'_1.mpr (by omega))
  by_cases h156 : pc < 169
  · exact List.all_eq_true.mp fp_cl_156 pc (List.mem_range'_1.mpr (by omega))
  by_cases h169 : pc < 182
  · exact List.all_eq_true.mp fp_cl_169 pc (List.mem_range'_1.mpr (by omega))
  by_cases h182 : pc < 195
  · exact List.all_eq_true.mp fp_cl_182 pc (List.mem_range'_1.mpr (by omega))
  by_cases h195 : pc < 208
  · exact List.all_eq_true.mp fp_cl_195 pc (List.mem_range'_1.mpr (by omega))
  by_cases h208 : pc < 221
  · exact List.all_eq_true.mp fp_cl_208 pc (List.mem_range'_1.mpr (by omega))
  by_cases h221 : pc < 234
  · exact List.all_eq_true.mp fp_cl_221 pc (List.mem_range'_1.mpr (by omega))
  by_cases h234 : pc < 247
  · exact List.all_eq_true.mp fp_cl_234 pc (List.mem_range'_1.mpr (by omega))
  by_cases h247 : pc < 260
  · exact List.all_eq_true.mp fp_cl_247 pc (List.mem_range'_1.mpr (by omega))
  by_cases h260 : pc < 273
  · exact List.all_eq_true.mp fp_cl_260 pc (List.mem_range'_1.mpr (by omega))
  by_cases h273 : pc < 286
  · exact List.all_eq_true.mp fp_cl_273 pc (List.mem_range'_1.mpr (by omega))
  by_cases h286 : pc < 299
  · exact List.all_eq_true.mp fp_cl_286 pc (List.mem_range'_1.mpr (by omega))
  by_cases h299 : pc < 312
  · exact List.all_eq_true.mp fp_cl_299 pc (List.mem_range'_1.mpr (by omega))
  by_cases h312 : pc < 325
  · exact List.all_eq_true.mp fp_cl_312 pc (List.mem_range'_1.mpr (by omega))
  by_cases h325 : pc < 338
  · exact List.all_eq_true.mp fp_cl_325 pc (List.mem_range'_1.mpr (by omega))
  by_cases h338 : pc < 351
  · exact List.all_eq_true.mp fp_cl_338 pc (List.mem_range'_1.mpr (by omega))
  by_cases h351 : pc < 364
  · exact List.all_eq_true.mp fp_cl_351 pc (List.mem_range'_1.mpr (by omega))
  by_cases h364 : pc < 377
  · exact List.all_eq_true.mp fp_cl_364 pc (List.mem_range'_1.mpr (by omega))
  by_cases h377 : pc < 390
  · exact List.all_eq_true.mp fp_cl_377 pc (List.mem_range'_1.mpr (by omega))
  by_cases h390 : pc < 403
  · exact List.all_eq_true.mp fp_cl_390 pc (List.mem_range'_1.mpr (by omega))
  by_cases h403 : pc < 416
  · exact List.all_eq_true.mp fp_cl_403 pc (List.mem_range'_1.mpr (by omega))
  by_cases h416 : pc < 429
  · exact List.all_eq_true.mp fp_cl_416 pc (List.mem_range'_1.mpr (by omega))
  by_cases h429 : pc < 442
  · exact List.all_eq_true.mp fp_cl_429 pc (List.mem_range'_1.mpr (by omega))
  by_cases h442 : pc < 455
  · exact List.all_eq_true.mp fp_cl_442 pc (List.mem_range'_1.mpr (by omega))
  by_cases h455 : pc < 468
  · exact List.all_eq_true.mp fp_cl_455 pc (List.mem_range'_1.mpr (by omega))
  by_cases h468 : pc < 481
  · exact List.all_eq_true.mp fp_cl_468 pc (List.mem_range'_1.mpr (by omega))
  by_cases h481 : pc < 494
  · exact List.all_eq_true.mp fp_cl_481 pc (List.mem_range'_1.mpr (by omega))
  by_cases h494 : pc < 507
  · exact List.all_eq_true.mp fp_cl_494 pc (List.mem_range'_1.mpr (by omega))
  by_cases h507 : pc < 520
  · exact List.all_eq_true.mp fp_cl_507 pc (List.mem_range'_1.mpr (by omega))
  by_cases h520 : pc < 533
  · exact List.all_eq_true.mp fp_cl_520 pc (List.mem_range'_1.mpr (by omega))
  by_cases h533 : pc < 546
  · exact List.all_eq_true.mp fp_cl_533 pc (List.mem_range'_1.mpr (by omega))
  by_cases h546 : pc < 559
  · exact List.all_eq_true.mp fp_cl_546 pc (List.mem_range'_1.mpr (by omega))
  by_cases h559 : pc < 572
  · exact List.all_eq_true.mp fp_cl_559 pc (List.mem_range'_1.mpr (by omega))
  by_cases h572 : pc < 585
  · exact List.all_eq_true.mp fp_cl_572 pc (List.mem_range'_1.mpr (by omega))
  by_cases h585 : pc < 598
  · exact List.all_eq_true.mp fp_cl_585 pc (List.mem_range'_1.mpr (by omega))
  by_cases h598 : pc < 611
  · exact List.all_eq_true.mp fp_cl_598 pc (List.mem_range'_1.mpr (by omega))
  by_cases h611 : pc < 624
  · exact List.all_eq_true.mp fp_cl_611 pc (List.mem_range'_1.mpr (by omega))
  by_cases h624 : pc < 637
  · exact List.all_eq_true.mp fp_cl_624 pc (List.mem_range'_1.mpr (by omega))
  by_cases h637 : pc < 650
  · exact List.all_eq_true.mp fp_cl_637 pc (List.mem_range'_1.mpr (by omega))
  by_cases h650 : pc < 663
  · exact List.all_eq_true.mp fp_cl_650 pc (List.mem_range'_1.mpr (by omega))
  by_cases h663 : pc < 676
  · exact List.all_eq_true.mp fp_cl_663 pc (List.mem_range'_1.mpr (by omega))
  by_cases h676 : pc < 689
  · exact List.all_eq_true.mp fp_cl_676 pc (List.mem_range'_1.mpr (by omega))
  by_cases h689 : pc < 702
  · exact List.all_eq_true.mp fp_cl_689 pc (List.mem_range'_1.mpr (by omega))
  by_cases h702 : pc < 715
  · exact List.all_eq_true.mp fp_cl_702 pc (List.mem_range'_1.mpr (by omega))
  by_cases h715 : pc < 728
  · exact List.all_eq_true.mp fp_cl_715 pc (List.mem_range'_1.mpr (by omega))
  by_cases h728 : pc < 741
  · exact List.all_eq_true.mp fp_cl_728 pc (List.mem_range'_1.mpr (by omega))
  by_cases h741 : pc < 754
  · exact List.all_eq_true.mp fp_cl_741 pc (List.mem_range'_1.mpr (by omega))
  by_cases h754 : pc < 767
  · exact List.all_eq_true.mp fp_cl_754 pc (List.mem_range'_1.mpr (by omega))
  by_cases h767 : pc < 780
  · exact List.all_eq_true.mp fp_cl_767 pc (List.mem_range'_1.mpr (by omega))
  by_cases h780 : pc < 793
  · exact List.all_eq_true.mp fp_cl_780 pc (List.mem_range'_1.mpr (by omega))
  by_cases h793 : pc < 806
  · exact List.all_eq_true.mp fp_cl_793 pc (List.mem_range'_1.mpr (by omega))
  by_cases h806 : pc < 819
  · exact List.all_eq_true.mp fp_cl_806 pc (List.mem_range'_1.mpr (by omega))
  by_cases h819 : pc < 832
  · exact List.all_eq_true.mp fp_cl_819 pc (List.mem_range'_1.mpr (by omega))
  by_cases h832 : pc < 845
  · exact List.all_eq_true.mp fp_cl_832 pc (List.mem_range'_1.mpr (by omega))
  by_cases h845 : pc < 858
  · exact List.all_eq_true.mp fp_cl_845 pc (List.mem_range'_1.mpr (by omega))
  by_cases h858 : pc < 871
  · exact List.all_eq_true.mp fp_cl_858 pc (List.mem_range'_1.mpr (by omega))
  by_cases h871 : pc < 884
  · exact List.all_eq_true.mp fp_cl_871 pc (List.mem_range'_1.mpr (by omega))
  by_cases h884 : pc < 897
  · exact List.all_eq_true.mp fp_cl_884 pc (List.mem_range'_1.mpr (by omega))
  by_cases h897 : pc < 910
  · exact List.all_eq_true.mp fp_cl_897 pc (List.mem_range'_1.mpr (by omega))
  by_cases h910 : pc < 923
  · exact List.all_eq_true.mp fp_cl_910 pc (List.mem_range'_1.mpr (by omega))
  by_cases h923 : pc < 936
  · exact List.all_eq_true.mp fp_cl_923 pc (List.mem_range'_1.mpr (by omega))
  by_cases h936 : pc < 949
  · exact List.all_eq_true.mp fp_cl_936 pc (List.mem_range'_1.mpr (by omega))
  by_cases h949 : pc < 962
  · exact List.all_eq_true.mp fp_cl_949 pc (List.mem_range'_1.mpr (by omega))
  by_cases h962 : pc < 975
  · exact List.all_eq_true.mp fp_cl_962 pc (List.mem_range'_1.mpr (by omega))
  by_cases h975 : pc < 988
  · exact List.all_eq_true.mp fp_cl_975 pc (List.mem_range'_1.mpr (by omega))
  by_cases h988 : pc < 1001
  · exact List.all_eq_true.mp fp_cl_988 pc (List.mem_range'_1.mpr (by omega))
  omega
theorem fp_ok {u pc : Nat} {e : FpE} (h : fp_code u pc = some e) : fp_chk u pc e = true := by
  unfold fp_code at h
  cases hg : (Nat.ble u 139 && Nat.ble pc 1000) with
  | false => rw [hg] at h; cases h
  | true =>
    rw [hg] at h
    simp only [Bool.and_eq_true, Nat.ble_eq] at hg
    have hu : fp_ckU u = true := by
      by_cases h0 : u = 0
      · rw [h0]; exact fp_ck_0
      by_cases h1 : u < 11
      · exact List.all_eq_true.mp fp_ck_1 u (List.mem_range'_1.mpr (by omega))
      by_cases h11 : u < 21
      · exact List.all_eq_true.mp fp_ck_11 u (List.mem_range'_1.mpr (by omega))
      by_cases h21 : u < 31
      · exact List.all_eq_true.mp fp_ck_21 u (List.mem_range'_1.mpr (by omega))
      by_cases h31 : u < 41
      · exact List.all_eq_true.mp fp_ck_31 u (List.mem_range'_1.mpr (by omega))
      by_cases h41 : u < 51
      · exact List.all_eq_true.mp fp_ck_41 u (List.mem_range'_1.mpr (by omega))
      by_cases h51 : u < 61
      · exact List.all_eq_true.mp fp_ck_51 u (List.mem_range'_1.mpr (by omega))
      by_cases h61 : u < 71
      · exact List.all_eq_true.mp fp_ck_61 u (List.mem_range'_1.mpr (by omega))
      by_cases h71 : u < 81
      · exact List.all_eq_true.mp fp_ck_71 u (List.mem_range'_1.mpr (by omega))
      by_cases h81 : u < 91
      · exact List.all_eq_true.mp fp_ck_81 u (List.mem_range'_1.mpr (by omega))
      by_cases h91 : u < 101
      · exact List.all_eq_true.mp fp_ck_91 u (List.mem_range'_1.mpr (by omega))
      by_cases h101 : u < 111
      · exact List.all_eq_true.mp fp_ck_101 u (List.mem_range'_1.mpr (by omega))
      by_cases h111 : u < 121
      · exact List.all_eq_true.mp fp_ck_111 u (List.mem_range'_1.mpr (by omega))
      by_cases h121 : u < 131
      · exact List.all_eq_true.mp fp_ck_121 u (List.mem_range'_1.mpr (by omega))
      by_cases h131 : u < 140
      · exact List.all_eq_true.mp fp_ck_131 u (List.mem_range'_1.mpr (by omega))
      omega
    have h2 := List.all_eq_true.mp hu pc (List.mem_range.mpr (by omega))
    have h3 : fp_codeT u pc = some e := h
    unfold fp_ckP at h2
    rw [h3] at h2
    exact h2
/-- the places of a method's words: its code, static or instanceMethod, selects, initialized -/
def fp_pl : List (Nat × Nat × Nat × Nat) := [(0, 0, 0, 29), (267, 265, 266, 35), (518, 516, 517, 35), (287, 285, 286, 34), (398, 396, 397, 34), (336, 334, 335, 34), (340, 338, 339, 34), (422, 420, 421, 34), (488, 486, 487, 34), (544, 542, 543, 34), (582, 580, 581, 34), (275, 273, 274, 32), (313, 311, 312, 32), (320, 318, 319, 32), (385, 383, 384, 32), (458, 456, 457, 32), (540, 538, 539, 32), (381, 379, 380, 32), (406, 404, 405, 32), (548, 546, 547, 32), (377, 375, 376, 32), (328, 326, 327, 32), (324, 322, 323, 32), (410, 408, 409, 32), (418, 416, 417, 32), (596, 594, 595, 32), (600, 598, 599, 32), (348, 346, 347, 36), (356, 354, 355, 36), (368, 366, 367, 36), (372, 370, 371, 36), (360, 358, 359, 36), (364, 362, 363, 36), (352, 350, 351, 36), (271, 269, 270, 31), (447, 445, 446, 31), (561, 559, 560, 31), (454, 452, 453, 31), (443, 441, 442, 31), (465, 463, 464, 31), (484, 482, 483, 31), (402, 400, 401, 31), (414, 412, 413, 31), (430, 428, 429, 31), (282, 280, 281, 33), (301, 299, 300, 33), (263, 261, 262, 33), (293, 291, 292, 33), (469, 467, 468, 33), (473, 471, 472, 33), (592, 590, 591, 33), (256, 254, 255, 30), (297, 295, 296, 30), (305, 303, 304, 30), (309, 307, 308, 30), (332, 330, 331, 30), (344, 342, 343, 30), (394, 392, 393, 30), (426, 424, 425, 30), (436, 434, 435, 30), (493, 491, 492, 30), (498, 496, 497, 30), (506, 504, 505, 30), (510, 508, 509, 30), (514, 512, 513, 30), (522, 520, 521, 30), (526, 524, 525, 30), (530, 528, 529, 30), (535, 533, 534, 30), (553, 551, 552, 30), (557, 555, 556, 30), (565, 563, 564, 30), (569, 567, 568, 30), (574, 572, 573, 30), (578, 576, 577, 30), (588, 586, 587, 30), (390, 389, 0, 30), (259, 258, 0, 30), (316, 315, 0, 30), (439, 438, 0, 30), (450, 449, 0, 30), (476, 475, 0, 30), (480, 479, 0, 30), (635, 634, 0, 37), (670, 669, 5, 37), (658, 657, 4, 37), (716, 715, 12, 37), (643, 642, 2, 37), (639, 638, 1, 37), (708, 707, 11, 37), (673, 672, 0, 37), (650, 649, 0, 37), (684, 683, 0, 37), (728, 727, 15, 37), (812, 811, 25, 37), (756, 755, 20, 37), (724, 723, 14, 37), (732, 731, 16, 37), (720, 719, 13, 37), (740, 739, 17, 37), (764, 763, 22, 37), (647, 646, 3, 37), (632, 630, 631, 37), (654, 652, 653, 37), (662, 660, 661, 37), (666, 664, 665, 37), (681, 680, 6, 37), (677, 675, 676, 37), (700, 699, 9, 37), (696, 695, 8, 37), (704, 703, 10, 37), (692, 691, 7, 37), (688, 686, 687, 37), (712, 710, 711, 37), (736, 734, 735, 37), (752, 751, 19, 37), (748, 747, 18, 37), (760, 759, 21, 37), (744, 742, 743, 37), (768, 766, 767, 37), (772, 770, 771, 37), (776, 774, 775, 37), (780, 778, 779, 37), (784, 782, 783, 37), (788, 786, 787, 37), (792, 790, 791, 37), (796, 794, 795, 37), (804, 803, 23, 37), (808, 807, 24, 37), (800, 798, 799, 37), (816, 814, 815, 37), (824, 823, 26, 37), (820, 818, 819, 37), (828, 826, 827, 37), (836, 835, 27, 37), (832, 830, 831, 37), (840, 838, 839, 37), (844, 842, 843, 37), (852, 851, 28, 37), (848, 846, 847, 37)]
def fp_chkM (u : Nat) : Bool := match fp_M[u]?, fp_pl[u]? with
  | some (ci, y, _, n, r, s), some (_, p2, p3, p4) => decide (y.cls = fp_rx ci) && plainName y.cls && decide (y.cls ≠ "java/lang/invoke/MethodHandle") && decide (y.cls ≠ "java/lang/invoke/VarHandle") && decide (n ≤ 13) && decide (ci ≤ 8) && decide (fp_nlL[u]? = some n) && decide (lw_tbl[p4]? = some (.initialized y.cls)) && goodWord (.initialized y.cls) &&
    (bif Nat.beq u 0 then true else decide (ci < 8) && (bif s then decide (lw_tbl[p2]? = some (.static y)) && goodWord (.static y) else decide (lw_tbl[p2]? = some (.instanceMethod y)) && goodWord (.instanceMethod y) && decide (lw_tbl[p3]? = some (.selects y.cls y y)) && goodWord (.selects y.cls y y)) && (decide (r = none) || decide (r = some .int) || decide (r = some .boolean)))
  | _, _ => false
set_option maxRecDepth 100000 in
theorem fp_ckM : (List.range 140).all fp_chkM = true := by decide +kernel
set_option maxRecDepth 100000 in
theorem fp_ckW : (fp_M.drop 1).map (fun q => some (Cond.code q.2.1 q.2.2.1 q.2.2.2.1 q.2.2.2.2.1)) = (fp_pl.drop 1).map (fun q => lw_tbl[q.1]?) := by rfl
theorem fp_lenM : fp_M.length = 140 := by decide +kernel
theorem fp_lenP : fp_pl.length = 140 := by decide +kernel
theorem fp_wac : Cond.static arraycopyName ∈ fp_tb ∧ Cond.native arraycopyName ∈ fp_tb ∧ Cond.initialized "java/lang/System" ∈ fp_tb := ⟨fp_in (i := 277) (by decide +kernel) (by decide +kernel), fp_in (i := 278) (by decide +kernel) (by decide +kernel), fp_in (i := 38) (by decide +kernel) (by decide +kernel)⟩
theorem fp_wmm : Cond.static Lib.Math.max.name ∈ fp_tb ∧ Cond.code Lib.Math.max.name Lib.Math.max.code 2 (some .int) ∈ fp_tb ∧ Cond.initialized "java/lang/Math" ∈ fp_tb := ⟨fp_in (i := 460) (by decide +kernel) (by decide +kernel), fp_in (i := 461) (by rfl) (by decide +kernel), fp_in (i := 39) (by decide +kernel) (by decide +kernel)⟩
set_option maxRecDepth 100000 in
theorem fp_u0 : wsX00.all (fun w => decide (w ∈ fp_tb)) = true := by decide +kernel
set_option maxRecDepth 100000 in
theorem fp_u1 : wsX10.all (fun w => decide (w ∈ fp_tb)) = true := by decide +kernel
set_option maxRecDepth 100000 in
theorem fp_u2 : wsX20.all (fun w => decide (w ∈ fp_tb)) = true := by decide +kernel
set_option maxRecDepth 100000 in
theorem fp_u3 : wsX30.all (fun w => decide (w ∈ fp_tb)) = true := by decide +kernel
set_option maxRecDepth 100000 in
theorem fp_u4 : wsX40.all (fun w => decide (w ∈ fp_tb)) = true := by decide +kernel
set_option maxRecDepth 100000 in
theorem fp_u5 : wsX50.all (fun w => decide (w ∈ fp_tb)) = true := by decide +kernel
set_option maxRecDepth 100000 in
theorem fp_u6 : wsX60.all (fun w => decide (w ∈ fp_tb)) = true := by decide +kernel
set_option maxRecDepth 100000 in
theorem fp_u7 : wsX70.all (fun w => decide (w ∈ fp_tb)) = true := by decide +kernel
end
section
/-! THE SYSTEM AS A MACHINE OF NUMBERS: values are integers or places of a fixed list of cells; a heap says what number stands in a group's cell at a place. -/
abbrev FpV : Type := Int ⊕ (Nat × Nat)
abbrev FpH : Type := Nat → Nat → Nat → Int
abbrev FpL : Type := List (Option FpV)
abbrev FpQ : Type := Option FpV → FpH → Prop
def fp_rg (z : Int) : Prop := -2147483648 ≤ z ∧ z ≤ 2147483647
def fp_up (H : FpH) (g c i : Nat) (v : Int) : FpH := fun g' c' i' => if g' = g ∧ c' = c ∧ i' = i then v else H g' c' i'
def fp_cp (H : FpH) (g c g' c' sp dp n : Nat) : FpH := fun G C I => if G = g' ∧ C = c' ∧ dp ≤ I ∧ I < dp + n then H g c (sp + (I - dp)) else H G C I
/-- the objects: class, and each field: a number, or a cell (group 99: the same group) -/
def fp_os (c : Nat) : Option (Nat × List (Option (Nat × Nat))) :=
  bif Nat.ble c 9 then (bif Nat.beq c 0 then some (4, [some (99, 1), some (99, 6), some (99, 9), some (99, 13), none, none, none, none, none])
    else bif Nat.beq c 1 then some (2, [some (99, 2), some (99, 3), some (99, 4), some (99, 5), none])
    else bif Nat.beq c 6 then some (5, [some (99, 7), some (99, 8), none])
    else bif Nat.beq c 9 then some (1, [some (99, 10), some (99, 11), some (99, 12), none]) else none)
  else bif Nat.beq c 14 then some (6, [some (0, 0), some (1, 0), some (2, 0), none, some (7, 15), some (7, 17)])
  else bif Nat.beq c 15 then some (0, [some (7, 16), none, none])
  else bif Nat.beq c 17 then some (3, [some (7, 18), none, some (7, 19), some (7, 20), some (7, 21), none, none])
  else bif Nat.beq c 22 then some (7, [some (8, 23), none, none, some (8, 24), none, none, some (8, 25)]) else none
/-- the arrays of numbers: of characters?, and how long -/
def fp_as (L c : Nat) : Option (Bool × Nat) :=
  bif Nat.ble c 13 then (bif Nat.ble c 5 then (bif Nat.beq c 2 then some (false, 80) else bif Nat.beq c 3 then some (false, 10) else bif Nat.beq c 4 then some (false, 10) else bif Nat.beq c 5 then some (false, 10) else none)
    else bif Nat.beq c 7 then some (false, 6) else bif Nat.beq c 8 then some (false, 6) else bif Nat.beq c 10 then some (false, 12) else bif Nat.beq c 11 then some (false, 12) else bif Nat.beq c 12 then some (false, 12) else bif Nat.beq c 13 then some (false, 3) else none)
  else bif Nat.beq c 18 then some (true, 80) else bif Nat.beq c 19 then some (false, 64) else bif Nat.beq c 20 then some (false, 8) else bif Nat.beq c 21 then some (false, 8)
  else bif Nat.beq c 23 then some (false, 1190) else bif Nat.beq c 24 then some (true, 80) else bif Nat.beq c 25 then some (false, 10)
  else bif Nat.beq c 26 then some (false, L) else bif Nat.beq c 27 then some (false, 3) else bif Nat.beq c 28 then some (false, 3) else none
def fp_lg : FpL → Nat → (FpV → Prop) → Prop
  | some v :: _, 0, k => k v
  | _ :: l, n + 1, k => fp_lg l n k
  | _, _, _ => False
def fp_ls : FpL → Nat → FpV → (FpL → Prop) → Prop
  | _ :: l, 0, v, k => k (some v :: l)
  | x :: l, n + 1, v, k => fp_ls l n v (fun l' => k (x :: l'))
  | [], _, _, _ => False
def fp_s1 (st : List FpV) (k : Int → List FpV → Prop) : Prop := match st with
  | .inl x :: st => k x st
  | _ => False
def fp_s2 (st : List FpV) (k : Int → Int → List FpV → Prop) : Prop := match st with
  | .inl y :: .inl x :: st => k x y st
  | _ => False
def fp_sr (st : List FpV) (k : Nat → Nat → List FpV → Prop) : Prop := match st with
  | .inr (g, c) :: st => k g c st
  | _ => False
def fp_si (st : List FpV) (k : Int → Nat → Nat → List FpV → Prop) : Prop := match st with
  | .inl i :: .inr (g, c) :: st => k i g c st
  | _ => False
def fp_sii (st : List FpV) (k : Int → Int → Nat → Nat → List FpV → Prop) : Prop := match st with
  | .inl z :: .inl i :: .inr (g, c) :: st => k z i g c st
  | _ => False
def fp_sc (st : List FpV) (k : Int → Int → Nat → Nat → Int → Nat → Nat → List FpV → Prop) : Prop := match st with
  | .inl n :: .inl dp :: .inr (g', c') :: .inl sp :: .inr (g, c) :: st => k n dp g' c' sp g c st
  | _ => False
def fp_nth : List (Option (Nat × Nat)) → Nat → Option (Option (Nat × Nat))
  | x :: _, 0 => some x
  | _ :: l, n + 1 => fp_nth l n
  | [], _ => none
/-- a field of an object of class a -/
def fp_fd (H : FpH) (g c a b : Nat) (k : FpV → Prop) : Prop := match fp_os c with
  | some (ci, fs) => bif Nat.beq ci a then (match fp_nth fs b with
    | some (some (g', c')) => bif Nat.beq g' 99 then k (.inr (g, c')) else k (.inr (g', c'))
    | some none => k (.inl (H g c b))
    | none => False) else False
  | none => False
/-- whether a field of a number stands there -/
def fp_fw (c a b : Nat) : Bool := match fp_os c with
  | some (ci, fs) => bif Nat.beq ci a then (match fp_nth fs b with
    | some none => true
    | _ => false) else false
  | none => false
def fp_ld (L : Nat) (ch : Bool) (H : FpH) (i : Int) (g c : Nat) (k : Int → Prop) : Prop := match fp_as L c with
  | some (b, n) => bif b == ch then (0 ≤ i ∧ i < (n : Int)) ∧ k (H g c i.toNat) else False
  | none => False
def fp_st (L : Nat) (ch : Bool) (i : Int) (c : Nat) (k : Prop) : Prop := match fp_as L c with
  | some (b, n) => bif (b == ch) && Nat.ble c 25 then (0 ≤ i ∧ i < (n : Int)) ∧ k else False
  | none => False
def fp_len (L : Nat) (c : Nat) (k : Int → Prop) : Prop := match fp_as L c with
  | some (_, n) => k (n : Int)
  | none => False
def fp_cpy (L : Nat) (n dp : Int) (c' : Nat) (sp : Int) (c : Nat) (k : Prop) : Prop := match fp_as L c, fp_as L c' with
  | some (false, m), some (false, m') => bif Nat.ble c' 25 && Nat.ble c 25 then (0 ≤ n ∧ 0 ≤ sp ∧ 0 ≤ dp ∧ sp + n ≤ (m : Int) ∧ dp + n ≤ (m' : Int)) ∧ k else False
  | _, _ => False
def fp_ta : Nat → List FpV → List FpV → (List FpV → List FpV → Prop) → Prop
  | 0, st, acc, k => k acc st
  | n + 1, v :: st, acc, k => fp_ta n st (v :: acc) k
  | _ + 1, [], _, _ => False
def fp_pu (r : Option FpV) (st : List FpV) : List FpV := match r with
  | some v => v :: st
  | none => st
def fp_sws (x lo : Int) (k : Nat → Prop) : List Nat → Prop
  | [] => True
  | t :: ts => (x = lo → k t) ∧ fp_sws x (lo + 1) k ts
def fp_br (c : Prop) (a b : Prop) : Prop := (c → a) ∧ (¬ c → b)
abbrev FpN : Type := Nat → FpL → List FpV → FpH → Prop
abbrev FpC : Type := Nat → List FpV → FpH → FpQ → Prop
def fp_cls (c : Nat) : Nat := match fp_os c with
  | some (ci, _) => ci
  | none => 99
def fp_calS (a b nx : Nat) (ls : FpL) (st : List FpV) (H : FpH) (N : FpN) (C : FpC) : Prop :=
  fp_ta b st [] (fun args st' => bif Nat.ble st'.length 8 then C a args H (fun r H' => N nx ls (fp_pu r st') H') else False)
def fp_rc (tg : Nat) (args : List FpV) : Bool := match args with
  | .inr (_, c) :: _ => Nat.beq (fp_cls c) tg
  | _ => false
def fp_calV (tg a b nx : Nat) (ls : FpL) (st : List FpV) (H : FpH) (N : FpN) (C : FpC) : Prop :=
  fp_ta b st [] (fun args st' => bif fp_rc tg args && Nat.ble st'.length 8 then C a args H (fun r H' => N nx ls (fp_pu r st') H') else False)
/-- one instruction -/
def fp_step (L : Nat) (e : FpE) (ls : FpL) (st : List FpV) (H : FpH) (N : FpN) (C : FpC) (R : FpQ) : Prop :=
  match e with
  | (i, nx, tg, a, b, _) => match i with
    | .aload_n k => fp_lg ls k.val (fun v => match v with
      | .inr r => N nx ls (.inr r :: st) H
      | _ => False)
    | .aload k => fp_lg ls k (fun v => match v with
      | .inr r => N nx ls (.inr r :: st) H
      | _ => False)
    | .iload_n k => fp_lg ls k.val (fun v => match v with
      | .inl r => N nx ls (.inl r :: st) H
      | _ => False)
    | .iload k => fp_lg ls k (fun v => match v with
      | .inl r => N nx ls (.inl r :: st) H
      | _ => False)
    | .iconst z => N nx ls (.inl z :: st) H
    | .bipush z => N nx ls (.inl z :: st) H
    | .sipush z => N nx ls (.inl z :: st) H
    | .istore_n k => fp_s1 st (fun x st => fp_ls ls k.val (.inl x) (fun ls => N nx ls st H))
    | .istore k => fp_s1 st (fun x st => fp_ls ls k (.inl x) (fun ls => N nx ls st H))
    | .astore_n k => fp_sr st (fun g c st => fp_ls ls k.val (.inr (g, c)) (fun ls => N nx ls st H))
    | .astore k => fp_sr st (fun g c st => fp_ls ls k (.inr (g, c)) (fun ls => N nx ls st H))
    | .iinc k z => fp_lg ls k (fun v => match v with
      | .inl x => fp_rg (x + z) ∧ fp_ls ls k (.inl (x + z)) (fun ls => N nx ls st H)
      | _ => False)
    | .iadd => fp_s2 st (fun x y st => fp_rg (x + y) ∧ N nx ls (.inl (x + y) :: st) H)
    | .isub => fp_s2 st (fun x y st => fp_rg (x - y) ∧ N nx ls (.inl (x - y) :: st) H)
    | .imul => fp_s2 st (fun x y st => fp_rg (x * y) ∧ N nx ls (.inl (x * y) :: st) H)
    | .idiv => fp_s2 st (fun x y st => (0 ≤ x ∧ 0 < y) ∧ N nx ls (.inl (x / y) :: st) H)
    | .irem => fp_s2 st (fun x y st => (0 ≤ x ∧ 0 < y) ∧ N nx ls (.inl (x % y) :: st) H)
    | .ishl => fp_s2 st (fun x y st => (x = 1 ∧ 0 ≤ y ∧ y < 31) ∧ N nx ls (.inl ((2 : Int) ^ y.toNat) :: st) H)
    | .iand => fp_s2 st (fun x y st => y = 31 ∧ N nx ls (.inl (x % 32) :: st) H)
    | .i2c => fp_s1 st (fun x st => N nx ls (.inl (x % 65536) :: st) H)
    | .dup => match st with
      | v :: st => N nx ls (v :: v :: st) H
      | _ => False
    | .dup2 => match st with
      | v :: w :: st => N nx ls (v :: w :: v :: w :: st) H
      | _ => False
    | .pop => match st with
      | _ :: st => N nx ls st H
      | _ => False
    | .goto _ => N tg ls st H
    | .ifCond c _ => fp_s1 st (fun x st => match c with
      | .eq => fp_br (x = 0) (N tg ls st H) (N nx ls st H)
      | .ne => fp_br (x = 0) (N nx ls st H) (N tg ls st H)
      | .lt => fp_br (x < 0) (N tg ls st H) (N nx ls st H)
      | .ge => fp_br (x < 0) (N nx ls st H) (N tg ls st H)
      | .gt => fp_br (0 < x) (N tg ls st H) (N nx ls st H)
      | .le => fp_br (0 < x) (N nx ls st H) (N tg ls st H))
    | .if_icmp c _ => fp_s2 st (fun x y st => match c with
      | .eq => fp_br (x = y) (N tg ls st H) (N nx ls st H)
      | .ne => fp_br (x = y) (N nx ls st H) (N tg ls st H)
      | .lt => fp_br (x < y) (N tg ls st H) (N nx ls st H)
      | .ge => fp_br (x < y) (N nx ls st H) (N tg ls st H)
      | .gt => fp_br (y < x) (N tg ls st H) (N nx ls st H)
      | .le => fp_br (y < x) (N nx ls st H) (N tg ls st H))
    | .getfield _ => fp_sr st (fun g c st => fp_fd H g c a b (fun v => N nx ls (v :: st) H))
    | .putfield _ => match st with
      | .inl z :: .inr (g, c) :: st => bif fp_fw c a b then (bif (Nat.beq a 6 && Nat.beq b 3) || (Nat.beq a 7 && Nat.beq b 2) then (z = 0 ∨ z = 1) ∧ N nx ls st (fp_up H g c b z) else N nx ls st (fp_up H g c b z)) else False
      | _ => False
    | .iaload => fp_si st (fun i g c st => fp_ld L false H i g c (fun z => N nx ls (.inl z :: st) H))
    | .caload => fp_si st (fun i g c st => fp_ld L true H i g c (fun z => N nx ls (.inl z :: st) H))
    | .iastore => fp_sii st (fun z i g c st => fp_st L false i c (N nx ls st (fp_up H g c i.toNat z)))
    | .castore => fp_sii st (fun z i g c st => (0 ≤ z ∧ z < 65536) ∧ fp_st L true i c (N nx ls st (fp_up H g c i.toNat z)))
    | .aaload => fp_si st (fun i _ c st => bif Nat.beq c 16 then (0 ≤ i ∧ i < 4) ∧ N nx ls (.inr (3 + i.toNat, 0) :: st) H else False)
    | .arraylength => fp_sr st (fun _ c st => fp_len L c (fun z => N nx ls (.inl z :: st) H))
    | .getstatic _ => N nx ls (.inr (9, a) :: st) H
    | .invokevirtual _ => fp_calV tg a b nx ls st H N C
    | .invokestatic _ => bif Nat.beq a 900 then fp_sc st (fun n dp g' c' sp g c st => fp_cpy L n dp c' sp c (bif Nat.ble st.length 8 then N nx ls st (fp_cp H g c g' c' sp.toNat dp.toNat n.toNat) else False))
      else bif Nat.beq a 901 then fp_s2 st (fun x y st => bif Nat.ble st.length 8 then N nx ls (.inl (if x < y then y else x) :: st) H else False)
      else fp_calS a b nx ls st H N C
    | .ireturn => match st with
      | [.inl z] => bif Nat.beq b 1 then (z = 0 ∨ z = 1) ∧ R (some (.inl z)) H else R (some (.inl z)) H
      | _ => False
    | .return_ => match st with
      | [] => R none H
      | _ => False
    | .tableswitch _ lo _ _ => fp_s1 st (fun x st => (x < lo ∨ lo + ((fp_sw.getD a []).length : Int) ≤ x → N tg ls st H) ∧ fp_sws x lo (fun t => N t ls st H) (fp_sw.getD a []))
    | _ => False
def fp_en (u : Nat) (args : List FpV) : FpL := args.map some ++ List.replicate (fp_nlL.getD u 0 - args.length) none
abbrev FpX : Type := Nat → Nat → Nat → FpL → List FpV → FpH → FpQ → Prop
def fp_Good (L : Nat) (X : FpX) : Prop :=
  (∀ d u pc ls st H (Q Q' : FpQ), (∀ v H', Q v H' → Q' v H') → X d u pc ls st H Q → X d u pc ls st H Q') ∧
  (∀ d u pc ls st H (Q : FpQ) e, fp_code u pc = some e → fp_step L e ls st H (fun pc ls st H => X d u pc ls st H Q) (fun u' args H K => ∃ d', d = d' + 1 ∧ X d' u' 0 (fp_en u' args) [] H K) Q → X d u pc ls st H Q)
/-- from here the method comes to its end, with Q, in at most d more frames -/
def fp_Wp (L d u pc : Nat) (ls : FpL) (st : List FpV) (H : FpH) (Q : FpQ) : Prop := ∀ X : FpX, fp_Good L X → X d u pc ls st H Q
theorem fp_lg_mono {ls : FpL} {k : Nat} {P P' : FpV → Prop} (h : ∀ v, P v → P' v) : fp_lg ls k P → fp_lg ls k P' := by
  induction ls generalizing k with
  | nil => intro q; cases k <;> simp [fp_lg] at q
  | cons x l ih =>
    cases k with
    | zero => cases x with
      | none => intro q; simp [fp_lg] at q
      | some v => exact fun q => h v q
    | succ k => cases x <;> exact fun q => ih q
theorem fp_ls_mono {ls : FpL} {k : Nat} {v : FpV} {P P' : FpL → Prop} (h : ∀ l, P l → P' l) : fp_ls ls k v P → fp_ls ls k v P' := by
  induction ls generalizing k P P' with
  | nil => intro q; cases k <;> simp [fp_ls] at q
  | cons x l ih =>
    cases k with
    | zero => exact fun q => h _ q
    | succ k => exact fun q => ih (fun l' => h _) q
theorem fp_ta_mono {n : Nat} {st acc : List FpV} {P P' : List FpV → List FpV → Prop} (h : ∀ a s, P a s → P' a s) : fp_ta n st acc P → fp_ta n st acc P' := by
  induction n generalizing st acc with
  | zero => exact fun q => h _ _ q
  | succ n ih => cases st with
    | nil => exact fun q => q
    | cons v st => exact fun q => ih q
theorem fp_s1_mono {st : List FpV} {P P' : Int → List FpV → Prop} (h : ∀ x s, P x s → P' x s) : fp_s1 st P → fp_s1 st P' := by
  unfold fp_s1; split
  · exact h _ _
  · exact id
theorem fp_s2_mono {st : List FpV} {P P' : Int → Int → List FpV → Prop} (h : ∀ x y s, P x y s → P' x y s) : fp_s2 st P → fp_s2 st P' := by
  unfold fp_s2; split
  · exact h _ _ _
  · exact id
theorem fp_sr_mono {st : List FpV} {P P' : Nat → Nat → List FpV → Prop} (h : ∀ x y s, P x y s → P' x y s) : fp_sr st P → fp_sr st P' := by
  unfold fp_sr; split
  · exact h _ _ _
  · exact id
theorem fp_si_mono {st : List FpV} {P P' : Int → Nat → Nat → List FpV → Prop} (h : ∀ z x y s, P z x y s → P' z x y s) : fp_si st P → fp_si st P' := by
  unfold fp_si; split
  · exact h _ _ _ _
  · exact id
theorem fp_sii_mono {st : List FpV} {P P' : Int → Int → Nat → Nat → List FpV → Prop} (h : ∀ w z x y s, P w z x y s → P' w z x y s) : fp_sii st P → fp_sii st P' := by
  unfold fp_sii; split
  · exact h _ _ _ _ _
  · exact id
theorem fp_sc_mono {st : List FpV} {P P' : Int → Int → Nat → Nat → Int → Nat → Nat → List FpV → Prop} (h : ∀ a b c d e f g s, P a b c d e f g s → P' a b c d e f g s) : fp_sc st P → fp_sc st P' := by
  unfold fp_sc; split
  · exact h _ _ _ _ _ _ _ _
  · exact id
theorem fp_fd_mono {H : FpH} {g c a b : Nat} {P P' : FpV → Prop} (h : ∀ v, P v → P' v) : fp_fd H g c a b P → fp_fd H g c a b P' := by
  unfold fp_fd; split
  · rename_i ci fs _
    cases Nat.beq ci a
    · exact id
    · simp only [cond_true]; split
      · rename_i g' c' _
        cases Nat.beq g' 99 <;> exact h _
      · exact h _
      · exact id
  · exact id
theorem fp_ld_mono {L : Nat} {ch : Bool} {H : FpH} {i : Int} {g c : Nat} {P P' : Int → Prop} (h : ∀ v, P v → P' v) : fp_ld L ch H i g c P → fp_ld L ch H i g c P' := by
  unfold fp_ld; split
  · rename_i b n _
    cases b == ch
    · exact id
    · exact fun q => ⟨q.1, h _ q.2⟩
  · exact id
theorem fp_st_mono {L : Nat} {ch : Bool} {i : Int} {c : Nat} {P P' : Prop} (h : P → P') : fp_st L ch i c P → fp_st L ch i c P' := by
  unfold fp_st; split
  · rename_i b n _
    cases (b == ch && Nat.ble c 25)
    · exact id
    · exact fun q => ⟨q.1, h q.2⟩
  · exact id
theorem fp_len_mono {L : Nat} {c : Nat} {P P' : Int → Prop} (h : ∀ v, P v → P' v) : fp_len L c P → fp_len L c P' := by
  unfold fp_len; split
  · exact h _
  · exact id
theorem fp_cpy_mono {L : Nat} {n dp sp : Int} {c c' : Nat} {P P' : Prop} (h : P → P') : fp_cpy L n dp c' sp c P → fp_cpy L n dp c' sp c P' := by
  unfold fp_cpy; split
  · cases (Nat.ble c' 25 && Nat.ble c 25)
    · exact id
    · exact fun q => ⟨q.1, h q.2⟩
  · exact id
theorem fp_br_mono {c a b a' b' : Prop} (h1 : a → a') (h2 : b → b') : fp_br c a b → fp_br c a' b' := fun q => ⟨fun x => h1 (q.1 x), fun x => h2 (q.2 x)⟩
theorem fp_sws_mono {x lo : Int} {k k' : Nat → Prop} (h : ∀ t, k t → k' t) {l : List Nat} : fp_sws x lo k l → fp_sws x lo k' l := by
  induction l generalizing lo with
  | nil => exact id
  | cons t ts ih => exact fun q => ⟨fun e => h _ (q.1 e), ih q.2⟩
theorem fp_if_mono {b : Bool} {P P' A : Prop} (h : P → P') : (bif b then A ∧ P else P) → (bif b then A ∧ P' else P') := by
  cases b
  · exact h
  · exact fun q => ⟨q.1, h q.2⟩
theorem fp_cond_mono {b : Bool} {P P' : Prop} (h : P → P') : (bif b then P else False) → (bif b then P' else False) := by
  cases b
  · exact id
  · exact h
section FPM
variable {L : Nat} {ls : FpL} {st : List FpV} {H : FpH} {N N' : FpN} {C C' : FpC}
theorem fp_calV_mono {tg a b nx : Nat} (hN : ∀ pc ls st H, N pc ls st H → N' pc ls st H) (hC : ∀ u args H (K K' : FpQ), (∀ v H', K v H' → K' v H') → C u args H K → C' u args H K') : fp_calV tg a b nx ls st H N C → fp_calV tg a b nx ls st H N' C' :=
  fp_ta_mono (fun _ _ => fp_cond_mono (hC _ _ _ _ _ (fun _ _ => hN _ _ _ _)))
theorem fp_calS_mono {a b nx : Nat} (hN : ∀ pc ls st H, N pc ls st H → N' pc ls st H) (hC : ∀ u args H (K K' : FpQ), (∀ v H', K v H' → K' v H') → C u args H K → C' u args H K') : fp_calS a b nx ls st H N C → fp_calS a b nx ls st H N' C' :=
  fp_ta_mono (fun _ _ => fp_cond_mono (hC _ _ _ _ _ (fun _ _ => hN _ _ _ _)))
set_option maxHeartbeats 4000000 in
theorem fp_step_mono {R : FpQ} {R' : FpQ} (e : FpE) (hN : ∀ pc ls st H, N pc ls st H → N' pc ls st H) (hC : ∀ u args H (K K' : FpQ), (∀ v H', K v H' → K' v H') → C u args H K → C' u args H K') (hR : ∀ v H, R v H → R' v H) : fp_step L e ls st H N C R → fp_step L e ls st H N' C' R' := by
  obtain ⟨i, nx, tg, a, b, w⟩ := e
  unfold fp_step
  cases i <;> dsimp only <;> first
    | exact id
    | exact hN _ _ _ _
    | (refine fp_lg_mono (fun v => ?_); cases v <;> first | exact hN _ _ _ _ | exact (fun q => ⟨q.1, fp_ls_mono (fun _ => hN _ _ _ _) q.2⟩) | exact id)
    | exact fp_s1_mono (fun _ _ => fp_ls_mono (fun _ => hN _ _ _ _))
    | exact fp_sr_mono (fun _ _ _ => fp_ls_mono (fun _ => hN _ _ _ _))
    | exact fp_s2_mono (fun _ _ _ q => ⟨q.1, hN _ _ _ _ q.2⟩)
    | exact fp_s1_mono (fun _ _ => hN _ _ _ _)
    | (split <;> first | exact hN _ _ _ _ | exact id)
    | (rename_i cnd _; cases cnd <;> exact fp_s1_mono (fun _ _ => fp_br_mono (hN _ _ _ _) (hN _ _ _ _)))
    | (rename_i cnd _; cases cnd <;> exact fp_s2_mono (fun _ _ _ => fp_br_mono (hN _ _ _ _) (hN _ _ _ _)))
    | exact fp_sr_mono (fun _ _ _ => fp_fd_mono (fun _ => hN _ _ _ _))
    | (split <;> first | exact fp_cond_mono (fp_if_mono (hN _ _ _ _)) | exact id)
    | exact fp_si_mono (fun _ _ _ _ => fp_ld_mono (fun _ => hN _ _ _ _))
    | exact fp_sii_mono (fun _ _ _ _ _ => fp_st_mono (hN _ _ _ _))
    | exact fp_sii_mono (fun _ _ _ _ _ q => ⟨q.1, fp_st_mono (hN _ _ _ _) q.2⟩)
    | exact fp_si_mono (fun _ _ _ _ => fp_cond_mono (fun q => ⟨q.1, hN _ _ _ _ q.2⟩))
    | exact fp_sr_mono (fun _ _ _ => fp_len_mono (fun _ => hN _ _ _ _))
    | exact fp_calV_mono hN hC
    | (cases Nat.beq a 900 <;> dsimp only [cond] <;> first
        | (cases Nat.beq a 901 <;> dsimp only [cond] <;> first
            | exact fp_calS_mono hN hC
            | exact fp_s2_mono (fun _ _ _ => fp_cond_mono (hN _ _ _ _)))
        | exact fp_sc_mono (fun _ _ _ _ _ _ _ _ => fp_cpy_mono (fp_cond_mono (hN _ _ _ _))))
    | (split <;> first | exact fp_if_mono (hR _ _) | exact hR _ _ | exact id)
    | exact fp_s1_mono (fun _ _ q => ⟨fun h => hN _ _ _ _ (q.1 h), fp_sws_mono (fun _ => hN _ _ _ _) q.2⟩)
end FPM
theorem fp_Wp_mono {L d u pc : Nat} {ls : FpL} {st : List FpV} {H : FpH} {Q Q' : FpQ} (h : ∀ v H', Q v H' → Q' v H') (q : fp_Wp L d u pc ls st H Q) : fp_Wp L d u pc ls st H Q' :=
  fun X hX => hX.1 _ _ _ _ _ _ _ _ h (q X hX)
theorem fp_Wp_step {L d u pc : Nat} {ls : FpL} {st : List FpV} {H : FpH} {Q : FpQ} {e : FpE} (he : fp_code u pc = some e)
    (h : fp_step L e ls st H (fun pc ls st H => fp_Wp L d u pc ls st H Q) (fun u' args H K => ∃ d', d = d' + 1 ∧ fp_Wp L d' u' 0 (fp_en u' args) [] H K) Q) : fp_Wp L d u pc ls st H Q := fun X hX =>
  hX.2 _ _ _ _ _ _ _ _ he (fp_step_mono e (fun _ _ _ _ q => q X hX) (fun _ _ _ _ _ hK ⟨d', e1, q⟩ => ⟨d', e1, hX.1 _ _ _ _ _ _ _ _ hK (q X hX)⟩) (fun _ _ q => q) h)
/-- k instructions at most, up to the stops -/
def fp_blk (L u : Nat) (stops : List Nat) (KN : FpN) (KC : FpC) (R : FpQ) : Nat → Nat → FpL → List FpV → FpH → Prop
  | 0, pc, ls, st, H => KN pc ls st H
  | k + 1, pc, ls, st, H => match fp_code u pc with
    | none => False
    | some e => fp_step L e ls st H (fun pc ls st H => bif stops.elem pc then KN pc ls st H else fp_blk L u stops KN KC R k pc ls st H) KC R
theorem fp_blk_ok {L d u : Nat} {stops : List Nat} {Q : FpQ} : ∀ (k pc : Nat) (ls : FpL) (st : List FpV) (H : FpH), fp_blk L u stops (fun pc ls st H => fp_Wp L d u pc ls st H Q) (fun u' args H K => ∃ d', d = d' + 1 ∧ fp_Wp L d' u' 0 (fp_en u' args) [] H K) Q k pc ls st H → fp_Wp L d u pc ls st H Q := by
  intro k
  induction k with
  | zero => exact fun _ _ _ _ q => q
  | succ k ih =>
    intro pc ls st H q
    unfold fp_blk at q
    split at q
    · exact q.elim
    · rename_i e he
      refine fp_Wp_step he (fp_step_mono e (fun pc ls st H q => ?_) (fun _ _ _ _ _ hK ⟨d', e1, q⟩ => ⟨d', e1, fp_Wp_mono hK q⟩) (fun _ _ q => q) q)
      cases hz : stops.elem pc
      · rw [hz] at q; exact ih _ _ _ _ q
      · rw [hz] at q; exact q
theorem fp_go {L d u pc : Nat} {ls : FpL} {st : List FpV} {H : FpH} {Q : FpQ} (k : Nat) (stops : List Nat)
    (h : ∀ (KN : FpN) (KC : FpC), (∀ pc ls st H, fp_Wp L d u pc ls st H Q → KN pc ls st H) → (∀ u' args H K, (∃ d', d = d' + 1 ∧ fp_Wp L d' u' 0 (fp_en u' args) [] H K) → KC u' args H K) → fp_blk L u stops KN KC Q k pc ls st H) : fp_Wp L d u pc ls st H Q :=
  fp_blk_ok k pc ls st H (h _ _ (fun _ _ _ _ q => q) (fun _ _ _ _ q => q))
end
section
/-! THE MACHINE DOES WHAT THE MACHINE OF NUMBERS DOES -/
def fp_oi (z : Int) : Int32 := Int32.ofInt z
theorem fp_oi_T {z : Int} (h : fp_rg z) : (fp_oi z).toInt = z := Int32.toInt_ofInt_of_le (by have := h.1; omega) (by have := h.2; omega)
theorem fp_oi_t (x : Int32) : fp_oi x.toInt = x := Int32.ofInt_toInt x
theorem fp_rg_t (x : Int32) : fp_rg x.toInt := ⟨by have := Int32.le_toInt x; omega, by have := Int32.toInt_lt x; omega⟩
theorem fp_oi_eq {x y : Int} (hx : fp_rg x) (hy : fp_rg y) : fp_oi x = fp_oi y ↔ x = y := by
  rw [← Int32.toInt_inj, fp_oi_T hx, fp_oi_T hy]
theorem fp_oi_lt {x y : Int} (hx : fp_rg x) (hy : fp_rg y) : fp_oi x < fp_oi y ↔ x < y := by
  rw [Int32.lt_iff_toInt_lt, fp_oi_T hx, fp_oi_T hy]
theorem fp_oi_0 : fp_oi 0 = 0 := by decide +kernel
theorem fp_rg_0 : fp_rg 0 := by unfold fp_rg; omega
theorem fp_oi_n (n : Nat) : fp_oi (n : Int) = nI n := by
  first | exact Int32.ofInt_eq_ofNat | (simp [fp_oi, nI]; done) | rfl
theorem fp_oi_add (x y : Int) : fp_oi x + fp_oi y = fp_oi (x + y) := (Int32.ofInt_add ..).symm
theorem fp_oi_sub (x y : Int) : fp_oi x - fp_oi y = fp_oi (x - y) := by
  first | exact (Int32.ofInt_sub ..).symm | (simp [fp_oi]; done)
theorem fp_oi_mul (x y : Int) : fp_oi x * fp_oi y = fp_oi (x * y) := (Int32.ofInt_mul ..).symm
theorem fp_nat {x : Int} (h0 : 0 ≤ x) (h : fp_rg x) : ∃ n : Nat, n < 2 ^ 31 ∧ x = (n : Int) := ⟨x.toNat, by have := h.2; omega, by omega⟩
theorem fp_oi_div {x y : Int} (hx : fp_rg x) (hy : fp_rg y) (h0 : 0 ≤ x) (h1 : 0 < y) : fp_oi x / fp_oi y = fp_oi (x / y) := by
  obtain ⟨a, ha, rfl⟩ := fp_nat h0 hx
  obtain ⟨b, hb, rfl⟩ := fp_nat (by omega) hy
  rw [fp_oi_n, fp_oi_n, pk_div ha (by omega) hb, ← fp_oi_n]
  rfl
theorem fp_oi_rem {x y : Int} (hx : fp_rg x) (hy : fp_rg y) (h0 : 0 ≤ x) (h1 : 0 < y) : fp_oi x - fp_oi x / fp_oi y * fp_oi y = fp_oi (x % y) := by
  obtain ⟨a, ha, rfl⟩ := fp_nat h0 hx
  obtain ⟨b, hb, rfl⟩ := fp_nat (by omega) hy
  rw [fp_oi_n, fp_oi_n, pk_rem ha (by omega) hb, ← fp_oi_n]
  rfl
theorem fp_shl1 : ∀ k, k < 31 → nI 1 <<< (nI k &&& 31) = nI (2 ^ k) := by decide +kernel
theorem fp_oi_shl {y : Int} (h0 : 0 ≤ y) (h1 : y < 31) : fp_oi 1 <<< (fp_oi y &&& 31) = fp_oi ((2 : Int) ^ y.toNat) := by
  obtain ⟨k, rfl⟩ := Int.eq_ofNat_of_zero_le h0
  have e : ((2 : Int) ^ ((k : Int)).toNat) = ((2 ^ k : Nat) : Int) := by rw [Int.toNat_natCast]; simp
  rw [e, fp_oi_n, fp_oi_n, ← fp_shl1 k (by omega)]
  rfl
theorem fp_rg_shl {y : Int} (h0 : 0 ≤ y) (h1 : y < 31) : fp_rg ((2 : Int) ^ y.toNat) := by
  obtain ⟨k, rfl⟩ := Int.eq_ofNat_of_zero_le h0
  have h2 : k ≤ 30 := by omega
  have h3 : 2 ^ k ≤ 2 ^ 30 := Nat.pow_le_pow_right (by decide) h2
  have e : ((2 : Int) ^ ((k : Int)).toNat) = ((2 ^ k : Nat) : Int) := by rw [Int.toNat_natCast]; simp
  rw [e]
  generalize 2 ^ k = z at h3 ⊢
  unfold fp_rg
  omega
theorem fp_bv {x : Int} (h : fp_rg x) : ((fp_oi x).toBitVec.toNat : Int) = x % 4294967296 := by
  have e : (fp_oi x).toBitVec = BitVec.ofInt 32 x := rfl
  rw [e, BitVec.toNat_ofInt]
  omega
theorem fp_oi_and {x : Int} (h : fp_rg x) : fp_oi x &&& fp_oi 31 = fp_oi (x % 32) := by
  have h1 := pk_and (fp_oi x) (m := fp_oi 31) 5 (by decide +kernel)
  rw [h1, ← fp_oi_n]
  congr 1
  have := fp_bv h
  omega
theorem fp_oi_i2c {x : Int} (h : fp_rg x) : ((fp_oi x).toUInt32 % 65536).toInt32 = fp_oi (x % 65536) := by
  rw [pk_char, ← fp_oi_n]
  congr 1
  have := fp_bv h
  omega
theorem fp_oi_b {z : Int} (h0 : -128 ≤ z) (h1 : z ≤ 127) : (Int8.ofInt z).toInt32 = fp_oi z := by
  rw [← Int32.toInt_inj, Int8.toInt_toInt32, fp_oi_T ⟨by omega, by omega⟩]
  exact Int8.toInt_ofInt_of_le (by omega) (by omega)
theorem fp_oi_s {z : Int} (h0 : -32768 ≤ z) (h1 : z ≤ 32767) : (Int16.ofInt z).toInt32 = fp_oi z := by
  rw [← Int32.toInt_inj, Int16.toInt_toInt32, fp_oi_T ⟨by omega, by omega⟩]
  exact Int16.toInt_ofInt_of_le (by omega) (by omega)
theorem fp_oi_in {i : Int} {n : Nat} (h : fp_rg i) (h0 : 0 ≤ i) (h1 : i < (n : Int)) : vp_in (fp_oi i) n ∧ (fp_oi i).toNatClampNeg = i.toNat := by
  have e : (fp_oi i).toNatClampNeg = i.toNat := by
    show (fp_oi i).toInt.toNat = _
    rw [fp_oi_T h]
  refine ⟨?_, e⟩
  unfold vp_in
  rw [e]
  rintro (q | q)
  · rw [← fp_oi_0, fp_oi_lt h fp_rg_0] at q; omega
  · omega
theorem fp_oi_nn {i : Int} (h : fp_rg i) (h0 : 0 ≤ i) : ¬ fp_oi i < 0 ∧ (fp_oi i).toNatClampNeg = i.toNat := by
  refine ⟨fun q => ?_, ?_⟩
  · rw [← fp_oi_0, fp_oi_lt h fp_rg_0] at q; omega
  · show (fp_oi i).toInt.toNat = _
    rw [fp_oi_T h]
/-! the cells -/
def fp_cells : List (Nat × Nat) := ((List.range 7).flatMap fun g => (List.range 14).map fun c => (g, c)) ++ [(7, 14), (7, 15), (7, 16), (7, 17), (7, 18), (7, 19), (7, 20), (7, 21), (8, 22), (8, 23), (8, 24), (8, 25)]
def fp_okV : FpV → Prop
  | .inl z => fp_rg z
  | .inr (g, c) => (g, c) ∈ fp_cells ∨ (g = 9 ∧ (c = 26 ∨ c = 27 ∨ c = 28))
def fp_okH (H : FpH) : Prop := ∀ g c i, fp_rg (H g c i)
theorem fp_okH_up {H : FpH} {g c i : Nat} {z : Int} (h : fp_okH H) (hz : fp_rg z) : fp_okH (fp_up H g c i z) := by
  intro a b j
  unfold fp_up
  split
  · exact hz
  · exact h _ _ _
theorem fp_okH_cp {H : FpH} {g c g' c' sp dp n : Nat} (h : fp_okH H) : fp_okH (fp_cp H g c g' c' sp dp n) := by
  intro a b j
  unfold fp_cp
  split
  · exact h _ _ _
  · exact h _ _ _
theorem fp_mem_1 : ∀ x ∈ fp_cells, (x.1 < 7 ∧ x.2 < 14) ∨ (x.1 = 7 ∧ 14 ≤ x.2 ∧ x.2 < 22) ∨ (x.1 = 8 ∧ 22 ≤ x.2 ∧ x.2 < 26) := by decide +kernel
theorem fp_mem_2 : (List.range 9).all (fun g => (List.range 26).all (fun c => !decide ((g < 7 ∧ c < 14) ∨ (g = 7 ∧ 14 ≤ c ∧ c < 22) ∨ (g = 8 ∧ 22 ≤ c ∧ c < 26)) || decide ((g, c) ∈ fp_cells))) = true := by decide +kernel
theorem fp_mem {g c : Nat} : (g, c) ∈ fp_cells ↔ (g < 7 ∧ c < 14) ∨ (g = 7 ∧ 14 ≤ c ∧ c < 22) ∨ (g = 8 ∧ 22 ≤ c ∧ c < 26) := by
  refine ⟨fp_mem_1 (g, c), fun h => ?_⟩
  have h1 := List.all_eq_true.mp (List.all_eq_true.mp fp_mem_2 g (List.mem_range.mpr (by omega))) c (List.mem_range.mpr (by omega))
  rw [Bool.or_eq_true, Bool.not_eq_true', decide_eq_false_iff_not, decide_eq_true_eq] at h1
  exact h1.resolve_left (fun q => q h)
section FPS
variable (ad : Nat → Nat → Nat) (cI cC cO : ClassId)
def fp_tr : FpV → Value
  | .inl z => .int (fp_oi z)
  | .inr (g, c) => .ref (ad g c)
def fp_fv (H : FpH) (g c : Nat) : Nat → List (Option (Nat × Nat)) → List Value
  | _, [] => []
  | j, some (g', c') :: l => .ref (bif Nat.beq g' 99 then ad g c' else ad g' c') :: fp_fv H g c (j + 1) l
  | j, none :: l => .int (fp_oi (H g c j)) :: fp_fv H g c (j + 1) l
def fp_ce (H : FpH) (g c : Nat) : va_E := match fp_os c with
  | some (ci, fs) => .inr (ci, fp_fv ad H g c 0 fs)
  | none => bif Nat.beq c 16 then .inl (cO, 4, .inr (.inr (.inr (.inr (fun i => if i < 4 then some (ad (3 + i) 0) else none)))))
    else match fp_as 0 c with
      | some (ch, n) => .inl (bif ch then cC else cI, n, .inl (fun j => fp_oi (H g c j)))
      | none => .inl (cI, 0, .inl (fun _ => 0))
def fp_W (H : FpH) : va_W := fp_cells.map (fun q => (ad q.1 q.2, fp_ce ad cI cC cO H q.1 q.2))
def fp_A : Nat → Prop := fun q => ∃ x ∈ fp_cells, ad x.1 x.2 = q
def fp_inj : Prop := ∀ x ∈ fp_cells, ∀ y ∈ fp_cells, ad x.1 x.2 = ad y.1 y.2 → x = y
def fp_tys : List (ClassId × FieldType) := [(cI, .int), (cC, .char), (cO, .object RX4)]
def fp_X (L : Nat) (H : FpH) (U : State) : Prop :=
  (∀ c, c = 26 ∨ c = 27 ∨ c = 28 → ∃ n, fp_as L c = some (false, n) ∧ va_X (ad 9 c) n (fun j => fp_oi (H 9 c j)) U U.heap ∧ ad 9 c < U.heap.size ∧ ¬ fp_A ad (ad 9 c)) ∧
  va_Z RX6 "LEAST_SETTING" "[I" (.ref (ad 9 27)) (fp_A ad) U U.heap ∧ va_Z RX6 "MOST_SETTING" "[I" (.ref (ad 9 28)) (fp_A ad) U U.heap
end FPS
section FPT
variable {ad : Nat → Nat → Nat} {cI cC cO : ClassId}
theorem fp_nd : fp_cells.Nodup := by decide +kernel
theorem fp_D (hj : fp_inj ad) (H : FpH) : va_D (fp_A ad) (fp_W ad cI cC cO H) := by
  have hnd : ∀ (i j : Nat) (x : Nat × Nat), fp_cells[i]? = some x → fp_cells[j]? = some x → i = j := by
    intro i j x h1 h2
    exact (List.getElem?_inj (List.getElem?_eq_some_iff.mp h1).1 fp_nd).mp (h1.trans h2.symm)
  refine ⟨fun i j p q hi hj' hpq => ?_, fun k q hk => ?_⟩
  · unfold fp_W at hi hj'
    rw [List.getElem?_map] at hi hj'
    cases h1 : fp_cells[i]? with
    | none => rw [h1] at hi; cases hi
    | some x =>
      cases h2 : fp_cells[j]? with
      | none => rw [h2] at hj'; cases hj'
      | some y =>
        rw [h1] at hi; rw [h2] at hj'
        cases hi; cases hj'
        have e := hj x (List.mem_of_getElem? h1) y (List.mem_of_getElem? h2) hpq
        subst e
        exact hnd i j x h1 h2
  · unfold fp_W at hk
    obtain ⟨x, hx, rfl⟩ := List.mem_map.mp (List.mem_of_getElem? hk)
    exact ⟨x, hx, rfl⟩
theorem fp_at (H : FpH) {g c : Nat} (h : (g, c) ∈ fp_cells) : ∃ k : Nat, fp_cells[k]? = some (g, c) ∧ (fp_W ad cI cC cO H)[k]? = some (ad g c, fp_ce ad cI cC cO H g c) := by
  obtain ⟨k, hk⟩ := List.getElem?_of_mem h
  exact ⟨k, hk, by unfold fp_W; rw [List.getElem?_map, hk]; rfl⟩
theorem fp_W_set {H H' : FpH} {g c k : Nat} (hk : fp_cells[k]? = some (g, c)) (ho : ∀ x ∈ fp_cells, x ≠ (g, c) → fp_ce ad cI cC cO H' x.1 x.2 = fp_ce ad cI cC cO H x.1 x.2) : (fp_W ad cI cC cO H).set k (ad g c, fp_ce ad cI cC cO H' g c) = fp_W ad cI cC cO H' := by
  apply List.ext_getElem?
  intro i
  have hl : k < (fp_W ad cI cC cO H).length := by
    unfold fp_W; rw [List.length_map]; exact (List.getElem?_eq_some_iff.mp hk).1
  by_cases hik : i = k
  · subst hik
    rw [List.getElem?_set_self hl]
    unfold fp_W
    rw [List.getElem?_map, hk]
    rfl
  · rw [List.getElem?_set_ne (Ne.symm hik)]
    unfold fp_W
    rw [List.getElem?_map, List.getElem?_map]
    cases h1 : fp_cells[i]? with
    | none => rfl
    | some x =>
      have hx : x ≠ (g, c) := by
        intro e
        subst e
        exact hik ((List.getElem?_inj (List.getElem?_eq_some_iff.mp h1).1 fp_nd).mp (h1.trans hk.symm))
      show some (_, _) = some (_, _)
      rw [ho x (List.mem_of_getElem? h1) hx]
theorem fp_fv_congr {H H' : FpH} {g c : Nat} (h : H' g c = H g c) : ∀ (fs : List (Option (Nat × Nat))) (j : Nat), fp_fv ad H' g c j fs = fp_fv ad H g c j fs
  | [], _ => rfl
  | some (_, _) :: l, j => by simp only [fp_fv]; rw [fp_fv_congr h l (j + 1)]
  | none :: l, j => by simp only [fp_fv]; rw [fp_fv_congr h l (j + 1), h]
theorem fp_ce_congr {H H' : FpH} {g c : Nat} (h : H' g c = H g c) : fp_ce ad cI cC cO H' g c = fp_ce ad cI cC cO H g c := by
  unfold fp_ce
  rw [h]
  split
  · rw [fp_fv_congr h]
  · rfl
theorem fp_fv_ref {H : FpH} {g c : Nat} {g' c' : Nat} : ∀ (fs : List (Option (Nat × Nat))) (j b : Nat), fp_nth fs b = some (some (g', c')) → (fp_fv ad H g c j fs)[b]? = some (.ref (bif Nat.beq g' 99 then ad g c' else ad g' c'))
  | [], _, _, h => by simp [fp_nth] at h
  | some (_, _) :: l, j, 0, h => by simp only [fp_nth, Option.some.injEq, Prod.mk.injEq] at h; obtain ⟨rfl, rfl⟩ := h; rfl
  | none :: l, j, 0, h => by simp [fp_nth] at h
  | some (_, _) :: l, j, b + 1, h => by simp only [fp_fv, List.getElem?_cons_succ]; exact fp_fv_ref l (j + 1) b h
  | none :: l, j, b + 1, h => by simp only [fp_fv, List.getElem?_cons_succ]; exact fp_fv_ref l (j + 1) b h
theorem fp_fv_int {H : FpH} {g c : Nat} : ∀ (fs : List (Option (Nat × Nat))) (j b : Nat), fp_nth fs b = some none → (fp_fv ad H g c j fs)[b]? = some (.int (fp_oi (H g c (j + b))))
  | [], _, _, h => by simp [fp_nth] at h
  | some (_, _) :: l, j, 0, h => by simp [fp_nth] at h
  | none :: l, j, 0, h => rfl
  | some (_, _) :: l, j, b + 1, h => by simp only [fp_fv, List.getElem?_cons_succ]; rw [fp_fv_int l (j + 1) b h, Nat.add_assoc, Nat.add_comm 1 b]
  | none :: l, j, b + 1, h => by simp only [fp_fv, List.getElem?_cons_succ]; rw [fp_fv_int l (j + 1) b h, Nat.add_assoc, Nat.add_comm 1 b]
theorem fp_fv_up {H : FpH} {g c i : Nat} {z : Int} : ∀ (fs : List (Option (Nat × Nat))) (j : Nat), i < j → fp_fv ad (fp_up H g c i z) g c j fs = fp_fv ad H g c j fs
  | [], _, _ => rfl
  | some (_, _) :: l, j, h => by simp only [fp_fv]; rw [fp_fv_up l (j + 1) (by omega)]
  | none :: l, j, h => by
    simp only [fp_fv]; rw [fp_fv_up l (j + 1) (by omega)]
    have : fp_up H g c i z g c j = H g c j := by unfold fp_up; rw [if_neg (by omega)]
    rw [this]
theorem fp_fv_set {H : FpH} {g c : Nat} {z : Int} : ∀ (fs : List (Option (Nat × Nat))) (j b : Nat), fp_nth fs b = some none → (fp_fv ad H g c j fs).set b (.int (fp_oi z)) = fp_fv ad (fp_up H g c (j + b) z) g c j fs
  | [], _, _, h => by simp [fp_nth] at h
  | some (_, _) :: l, j, 0, h => by simp [fp_nth] at h
  | none :: l, j, 0, h => by
    simp only [fp_fv, List.set_cons_zero]
    rw [fp_fv_up l (j + 1) (by omega)]
    have : fp_up H g c (j + 0) z g c j = z := by unfold fp_up; rw [if_pos ⟨rfl, rfl, by omega⟩]
    rw [this]
  | some (_, _) :: l, j, b + 1, h => by
    simp only [fp_fv, List.set_cons_succ]
    rw [fp_fv_set l (j + 1) b h, Nat.add_assoc, Nat.add_comm 1 b]
  | none :: l, j, b + 1, h => by
    simp only [fp_fv, List.set_cons_succ]
    rw [fp_fv_set l (j + 1) b h, Nat.add_assoc, Nat.add_comm 1 b]
    have : fp_up H g c (j + (b + 1)) z g c j = H g c j := by unfold fp_up; rw [if_neg (by omega)]
    rw [this]
theorem fp_fv_len {H : FpH} {g c : Nat} : ∀ (fs : List (Option (Nat × Nat))) (j : Nat), (fp_fv ad H g c j fs).length = fs.length
  | [], _ => rfl
  | some (_, _) :: l, j => by simp only [fp_fv, List.length_cons, fp_fv_len l]
  | none :: l, j => by simp only [fp_fv, List.length_cons, fp_fv_len l]
theorem fp_nth_lt {x : Option (Nat × Nat)} : ∀ (fs : List (Option (Nat × Nat))) (b : Nat), fp_nth fs b = some x → b < fs.length
  | [], _, h => by simp [fp_nth] at h
  | _ :: l, 0, _ => by simp
  | _ :: l, b + 1, h => by have := fp_nth_lt l b h; simp; omega
theorem fp_X_to {L : Nat} {H H' : FpH} {U U' : State} (h : fp_X ad L H U) (hvm : U.vm.Alike U'.vm) (hz : U.heap.size ≤ U'.heap.size) (hh : ∀ q : Nat, q < U.heap.size → ¬ fp_A ad q → U'.heap[q]? = U.heap[q]?) (hH : H' 9 26 = H 9 26 ∧ H' 9 27 = H 9 27 ∧ H' 9 28 = H 9 28) : fp_X ad L H' U' := by
  obtain ⟨h1, h2, h3⟩ := h
  refine ⟨fun c hc => ?_, (h2.moved hvm).kept hh, (h3.moved hvm).kept hh⟩
  obtain ⟨n, a1, a2, a3, a4⟩ := h1 c hc
  have e : H' 9 c = H 9 c := by rcases hc with rfl | rfl | rfl <;> simp [hH]
  refine ⟨n, a1, ?_, Nat.lt_of_lt_of_le a3 hz, a4⟩
  rw [e]
  exact (a2.moved hvm).kept (hh _ a3 a4)
theorem fp_X_back {L : Nat} {H H' : FpH} {U U' : State} (h : fp_X ad L H U) (h' : fp_X ad L H' U') (hvm : U.vm.Alike U'.vm) (hh : ∀ q : Nat, q < U.heap.size → ¬ fp_A ad q → U'.heap[q]? = U.heap[q]?) : fp_X ad L H' U := by
  obtain ⟨h1, h2, h3⟩ := h
  refine ⟨fun c hc => ?_, h2, h3⟩
  obtain ⟨n, a1, a2, a3, a4⟩ := h1 c hc
  obtain ⟨n', b1, b2, b3, b4⟩ := h'.1 c hc
  exact ⟨n', b1, (b2.moved hvm.symm).kept (hh _ a3 a4).symm, a3, a4⟩
end FPT
end
section
/-! the soundness of one instruction, and of the whole -/
section FPY
variable (ad : Nat → Nat → Nat) (cI cC cO : ClassId)
def fp_lv : Nat → FpL → List (Nat × Value)
  | _, [] => []
  | j, some v :: l => (j, fp_tr ad v) :: fp_lv (j + 1) l
  | j, none :: l => fp_lv (j + 1) l
/-- the instruction by which a method that returns r comes to its end with v -/
def fp_rok (cc : ByteArray) (pc : Nat) (r : Option FieldType) : Option FpV → Prop
  | none => r = none ∧ decode cc pc = .ok (.return_, 1)
  | some (.inl z) => decode cc pc = .ok (.ireturn, 1) ∧ fp_rg z ∧ (r = some .int ∨ (r = some .boolean ∧ (z = 0 ∨ z = 1)))
  | _ => False
def fp_Xm (l : Launch) (D : va_G) (L : Nat) : FpX := fun d u pc ls st H Q =>
  ∀ (p : Program) (e : Env) (R : Room) (s : State) (m : MethodId) (args : Array Value) (below : List Frame) (meth : Method) (c : Code) (Hp : Heap) (locs : List Loc) (cells slots : Nat) (Z : State → Prop) (mls : Array Slot) (ci n : Nat) (y : MethodName) (cc : ByteArray) (r : Option FieldType) (b : Bool),
    fp_M[u]? = some (ci, y, cc, n, r, b) → CallFix p m c cc n s args fp_tb (fp_rx ci) → (∀ w ∈ fp_nw, va_Nw w s) → (d + 1 ≤ R.frames ∧ 32 * (d + 1) ≤ R.locals ∧ cells ≤ R.cells ∧ slots ≤ R.slots) →
    fp_X ad L H s → va_K D fp_cl (fp_tys cI cC cO) s → va_P D fp_cl (fp_W ad cI cC cO H) Hp → va_S (fp_A ad) s.heap Hp locs → fp_okH H → (∀ v ∈ st, fp_okV v) → (∀ v, some v ∈ ls → fp_okV v) → lv_has mls n (fp_lv ad 0 ls) →
    (∀ (pc' : Nat) (mls' : Array Slot) (H' : FpH) (Hp' : Heap) (locs' : List Loc) (v : Option FpV), fp_okH H' → va_P D fp_cl (fp_W ad cI cC cO H') Hp' → va_S (fp_A ad) s.heap Hp' locs' → fp_X ad L H' s → Q v H' → fp_rok cc pc' r v → mls'.size = n → W p l e R s m args below meth c Hp' locs' cells slots Z (F0 m pc' mls' (v.toList.map (fp_tr ad)))) →
    W p l e R s m args below meth c Hp locs cells slots Z (F0 m pc mls (st.map (fp_tr ad)))
end FPY
section FPZ
variable {ad : Nat → Nat → Nat} {cI cC cO : ClassId}
theorem fp_tr_cat (v : FpV) : (fp_tr ad v).category = 1 := by
  rcases v with z | ⟨g, c⟩ <;> rfl
theorem fp_lv_cat : ∀ (l : FpL) (j : Nat), ∀ q ∈ fp_lv ad j l, q.2.category = 1 ∧ j ≤ q.1
  | [], _, q, h => by simp [fp_lv] at h
  | some v :: l, j, q, h => by
    simp only [fp_lv, List.mem_cons] at h
    rcases h with rfl | h
    · exact ⟨fp_tr_cat v, Nat.le_refl _⟩
    · have := fp_lv_cat l (j + 1) q h; exact ⟨this.1, by omega⟩
  | none :: l, j, q, h => by
    simp only [fp_lv] at h
    have := fp_lv_cat l (j + 1) q h; exact ⟨this.1, by omega⟩
theorem fp_lg_out : ∀ {ls : FpL} {k : Nat} {P : FpV → Prop} (j : Nat), fp_lg ls k P → ∃ v, P v ∧ some v ∈ ls ∧ (j + k, fp_tr ad v) ∈ fp_lv ad j ls
  | [], k, P, j, h => by cases k <;> simp [fp_lg] at h
  | none :: l, 0, P, j, h => by simp [fp_lg] at h
  | some v :: l, 0, P, j, h => ⟨v, h, List.mem_cons_self, by simp [fp_lv]⟩
  | none :: l, k + 1, P, j, h => by
    have h : fp_lg l k P := h
    obtain ⟨v, a, b, c⟩ := fp_lg_out (j + 1) h
    refine ⟨v, a, List.mem_cons_of_mem _ b, ?_⟩
    simp only [fp_lv]
    rw [show j + (k + 1) = j + 1 + k by omega]; exact c
  | some w :: l, k + 1, P, j, h => by
    have h : fp_lg l k P := h
    obtain ⟨v, a, b, c⟩ := fp_lg_out (j + 1) h
    refine ⟨v, a, List.mem_cons_of_mem _ b, ?_⟩
    simp only [fp_lv]
    rw [show j + (k + 1) = j + 1 + k by omega]; exact List.mem_cons_of_mem _ c
theorem fp_ls_out : ∀ {ls : FpL} {k : Nat} {v : FpV} {P : FpL → Prop} (j : Nat), fp_ls ls k v P → ∃ ls', P ls' ∧ (∀ w, some w ∈ ls' → w = v ∨ some w ∈ ls) ∧ ∀ q ∈ fp_lv ad j ls', q = (j + k, fp_tr ad v) ∨ (q ∈ fp_lv ad j ls ∧ q.1 ≠ j + k)
  | [], k, v, P, j, h => by cases k <;> simp [fp_ls] at h
  | x :: l, 0, v, P, j, h => by
    refine ⟨some v :: l, h, fun w hw => ?_, fun q hq => ?_⟩
    · rcases List.mem_cons.mp hw with e | e
      · exact Or.inl (Option.some.inj e)
      · exact Or.inr (List.mem_cons_of_mem _ e)
    · simp only [fp_lv, List.mem_cons] at hq
      rcases hq with rfl | hq
      · exact Or.inl rfl
      · have h1 := fp_lv_cat l (j + 1) q hq
        refine Or.inr ⟨?_, by omega⟩
        cases x with
        | none => exact hq
        | some x => exact List.mem_cons_of_mem _ hq
  | x :: l, k + 1, v, P, j, h => by
    have h : fp_ls l k v (fun l' => P (x :: l')) := h
    obtain ⟨ls', a, b, c⟩ := fp_ls_out (j + 1) h
    refine ⟨x :: ls', a, fun w hw => ?_, fun q hq => ?_⟩
    · rcases List.mem_cons.mp hw with e | e
      · exact Or.inr (by rw [e]; exact List.mem_cons_self)
      · rcases b w e with e | e
        · exact Or.inl e
        · exact Or.inr (List.mem_cons_of_mem _ e)
    · cases x with
      | none =>
        simp only [fp_lv] at hq ⊢
        rcases c q hq with e | e
        · exact Or.inl (by rw [e, show j + (k + 1) = j + 1 + k by omega])
        · exact Or.inr ⟨e.1, by have := e.2; omega⟩
      | some x =>
        simp only [fp_lv, List.mem_cons] at hq ⊢
        rcases hq with rfl | hq
        · exact Or.inr ⟨Or.inl rfl, by show j ≠ _; omega⟩
        · rcases c q hq with e | e
          · exact Or.inl (by rw [e, show j + (k + 1) = j + 1 + k by omega])
          · exact Or.inr ⟨Or.inr e.1, by have := e.2; omega⟩
theorem fp_lv_st {mls : Array Slot} {n k : Nat} {ls ls' : FpL} {v : FpV} (hq : ∀ q ∈ fp_lv ad 0 ls', q = (0 + k, fp_tr ad v) ∨ (q ∈ fp_lv ad 0 ls ∧ q.1 ≠ 0 + k))
    (h : lv_has mls n ((k, fp_tr ad v) :: (fp_lv ad 0 ls).filter (fun q => !(q.1 == k) && !(q.1 + 1 == k && q.2.category == 2)))) : lv_has mls n (fp_lv ad 0 ls') := by
  refine ⟨h.1, h.2.1, fun q hm => h.2.2 q ?_⟩
  rcases hq q hm with e | ⟨e1, e2⟩
  · rw [e, Nat.zero_add]; exact List.mem_cons_self
  · refine List.mem_cons_of_mem _ (List.mem_filter.mpr ⟨e1, ?_⟩)
    have h1 := (fp_lv_cat ls 0 q e1).1
    have h2 : q.1 ≠ k := by omega
    simp [h1, h2]
theorem fp_ta_out : ∀ {n : Nat} {st acc : List FpV} {P : List FpV → List FpV → Prop}, fp_ta n st acc P → ∃ as st', st = as ++ st' ∧ as.length = n ∧ P (as.reverse ++ acc) st'
  | 0, st, acc, P, h => ⟨[], st, rfl, rfl, h⟩
  | n + 1, [], acc, P, h => h.elim
  | n + 1, v :: st, acc, P, h => by
    have h : fp_ta n st (v :: acc) P := h
    obtain ⟨as, st', rfl, h2, h3⟩ := fp_ta_out h
    exact ⟨v :: as, st', rfl, by simp [h2], by simpa using h3⟩
theorem fp_s1_out {st : List FpV} {P : Int → List FpV → Prop} (h : fp_s1 st P) : ∃ x s', st = .inl x :: s' ∧ P x s' := by
  unfold fp_s1 at h; split at h
  · exact ⟨_, _, rfl, h⟩
  · exact h.elim
theorem fp_s2_out {st : List FpV} {P : Int → Int → List FpV → Prop} (h : fp_s2 st P) : ∃ x y s', st = .inl y :: .inl x :: s' ∧ P x y s' := by
  unfold fp_s2 at h; split at h
  · exact ⟨_, _, _, rfl, h⟩
  · exact h.elim
theorem fp_sr_out {st : List FpV} {P : Nat → Nat → List FpV → Prop} (h : fp_sr st P) : ∃ g c s', st = .inr (g, c) :: s' ∧ P g c s' := by
  unfold fp_sr at h; split at h
  · exact ⟨_, _, _, rfl, h⟩
  · exact h.elim
theorem fp_si_out {st : List FpV} {P : Int → Nat → Nat → List FpV → Prop} (h : fp_si st P) : ∃ i g c s', st = .inl i :: .inr (g, c) :: s' ∧ P i g c s' := by
  unfold fp_si at h; split at h
  · exact ⟨_, _, _, _, rfl, h⟩
  · exact h.elim
theorem fp_sii_out {st : List FpV} {P : Int → Int → Nat → Nat → List FpV → Prop} (h : fp_sii st P) : ∃ z i g c s', st = .inl z :: .inl i :: .inr (g, c) :: s' ∧ P z i g c s' := by
  unfold fp_sii at h; split at h
  · exact ⟨_, _, _, _, _, rfl, h⟩
  · exact h.elim
theorem fp_sc_out {st : List FpV} {P : Int → Int → Nat → Nat → Int → Nat → Nat → List FpV → Prop} (h : fp_sc st P) : ∃ n dp g' c' sp g c s', st = .inl n :: .inl dp :: .inr (g', c') :: .inl sp :: .inr (g, c) :: s' ∧ P n dp g' c' sp g c s' := by
  unfold fp_sc at h; split at h
  · exact ⟨_, _, _, _, _, _, _, _, rfl, h⟩
  · exact h.elim
theorem fp_cond_out {b : Bool} {P : Prop} (h : bif b then P else False) : b = true ∧ P := by
  cases b
  · exact h.elim
  · exact ⟨rfl, h⟩
theorem fp_cats (st : List FpV) (h : st.length ≤ 8) : ((st.map (fp_tr ad)).map fun v => v.category).sum ≤ 8 := by
  have : ((st.map (fp_tr ad)).map fun v => v.category).sum = st.length := by
    clear h
    induction st with
    | nil => rfl
    | cons v st ih =>
      simp only [List.map_cons, List.sum_cons, fp_tr_cat, List.length_cons, ih]
      omega
  omega
end FPZ
end
section
/-! each kind of instruction on the fixed cells, over the machine -/
theorem fp_cok {a : Nat} {C : String} {T : u_T} {N : Nat} (h : fp_cl[a]? = some (C, T, N)) : (∀ w ∈ u_ws C T N, w ∈ fp_tb) ∧ (∃ ty0 : Nat → FieldType, ∀ k, k < N → parseFieldDescriptor (T k).2.2.1 = some (ty0 k)) ∧ (∀ a, a < N → ∀ b, b < N → a ≠ b → (T a).2.1 ≠ (T b).2.1) := by
  have hl : a < 8 := (List.getElem?_eq_some_iff.mp h).1
  match a, hl with
  | 0, _ => cases h; exact ⟨fun w hw => of_decide_eq_true (List.all_eq_true.mp fp_u0 w hw), ⟨tyX0, tyX0_ok⟩, nmX0⟩
  | 1, _ => cases h; exact ⟨fun w hw => of_decide_eq_true (List.all_eq_true.mp fp_u1 w hw), ⟨tyX1, tyX1_ok⟩, nmX1⟩
  | 2, _ => cases h; exact ⟨fun w hw => of_decide_eq_true (List.all_eq_true.mp fp_u2 w hw), ⟨tyX2, tyX2_ok⟩, nmX2⟩
  | 3, _ => cases h; exact ⟨fun w hw => of_decide_eq_true (List.all_eq_true.mp fp_u3 w hw), ⟨tyX3, tyX3_ok⟩, nmX3⟩
  | 4, _ => cases h; exact ⟨fun w hw => of_decide_eq_true (List.all_eq_true.mp fp_u4 w hw), ⟨tyX4, tyX4_ok⟩, nmX4⟩
  | 5, _ => cases h; exact ⟨fun w hw => of_decide_eq_true (List.all_eq_true.mp fp_u5 w hw), ⟨tyX5, tyX5_ok⟩, nmX5⟩
  | 6, _ => cases h; exact ⟨fun w hw => of_decide_eq_true (List.all_eq_true.mp fp_u6 w hw), ⟨tyX6, tyX6_ok⟩, nmX6⟩
  | 7, _ => cases h; exact ⟨fun w hw => of_decide_eq_true (List.all_eq_true.mp fp_u7 w hw), ⟨tyX7, tyX7_ok⟩, nmX7⟩
theorem fp_chkF_out {own : String} {idx a b w : Nat} (h : fp_chkF own idx a b w = true) : ∃ (C : String) (T : u_T) (N : Nat), fp_cl[a]? = some (C, T, N) ∧ b < N ∧ (T b).1 = C ∧ Cond.fieldLink own idx C (T b).2.1 (T b).2.2.1 ∈ fp_tb := by
  unfold fp_chkF at h
  split at h
  · rename_i C T N hq
    simp only [Bool.and_eq_true, decide_eq_true_eq] at h
    exact ⟨C, T, N, hq, h.1.1.1, h.1.1.2, fp_in h.1.2 h.2⟩
  · cases h
/-- the objects' fields lie among the cells -/
theorem fp_os_chk : (List.range 26).all (fun c => match fp_os c with
  | some (_, fs) => fs.all (fun f => match f with
    | some (g', c') => bif Nat.beq g' 99 then decide (c' < 14 ∧ c < 14) else decide ((g', c') ∈ fp_cells)
    | none => true)
  | none => true) = true := by decide +kernel
theorem fp_nth_mem {x : Option (Nat × Nat)} : ∀ (fs : List (Option (Nat × Nat))) (b : Nat), fp_nth fs b = some x → x ∈ fs
  | [], _, h => by simp [fp_nth] at h
  | y :: l, 0, h => by simp only [fp_nth, Option.some.injEq] at h; rw [h]; exact List.mem_cons_self
  | _ :: l, b + 1, h => List.mem_cons_of_mem _ (fp_nth_mem l b h)
theorem fp_obj {g c ci : Nat} {fs : List (Option (Nat × Nat))} (hv : fp_okV (.inr (g, c))) (ho : fp_os c = some (ci, fs)) : (g, c) ∈ fp_cells := by
  rcases hv with h | ⟨-, rfl | rfl | rfl⟩
  · exact h
  · cases ho
  · cases ho
  · cases ho
theorem fp_obj_ref {g c ci b g' c' : Nat} {fs : List (Option (Nat × Nat))} (hm : (g, c) ∈ fp_cells) (ho : fp_os c = some (ci, fs)) (hn : fp_nth fs b = some (some (g', c'))) : (Nat.beq g' 99 = true ∧ (g, c') ∈ fp_cells) ∨ (Nat.beq g' 99 = false ∧ (g', c') ∈ fp_cells) := by
  have hc := fp_mem.mp hm
  have h1 := List.all_eq_true.mp fp_os_chk c (List.mem_range.mpr (by omega))
  rw [ho] at h1
  have h2 := List.all_eq_true.mp h1 _ (fp_nth_mem fs b hn)
  cases hb : Nat.beq g' 99 with
  | true =>
    dsimp only at h2
    rw [hb] at h2
    have h3 := of_decide_eq_true h2
    exact Or.inl ⟨rfl, fp_mem.mpr (by omega)⟩
  | false =>
    dsimp only at h2
    rw [hb] at h2
    exact Or.inr ⟨rfl, of_decide_eq_true h2⟩
theorem fp_as_lo (L : Nat) : ∀ c, c < 26 → fp_as L c = fp_as 0 c := by
  intro c hc
  match c, hc with
  | 0, _ => rfl
  | 1, _ => rfl
  | 2, _ => rfl
  | 3, _ => rfl
  | 4, _ => rfl
  | 5, _ => rfl
  | 6, _ => rfl
  | 7, _ => rfl
  | 8, _ => rfl
  | 9, _ => rfl
  | 10, _ => rfl
  | 11, _ => rfl
  | 12, _ => rfl
  | 13, _ => rfl
  | 14, _ => rfl
  | 15, _ => rfl
  | 16, _ => rfl
  | 17, _ => rfl
  | 18, _ => rfl
  | 19, _ => rfl
  | 20, _ => rfl
  | 21, _ => rfl
  | 22, _ => rfl
  | 23, _ => rfl
  | 24, _ => rfl
  | 25, _ => rfl
  | k + 26, h => exact absurd h (by omega)
theorem fp_as_chk : (List.range 26).all (fun c => match fp_as 0 c with
  | some _ => (fp_os c).isNone && !(Nat.beq c 16)
  | none => true) = true := by decide +kernel
theorem fp_arr_cell {L c : Nat} {ch : Bool} {n : Nat} (ha : fp_as L c = some (ch, n)) (hc : c < 26) (ad : Nat → Nat → Nat) (cI cC cO : ClassId) (H : FpH) (g : Nat) : fp_ce ad cI cC cO H g c = .inl (bif ch then cC else cI, n, .inl (fun j => fp_oi (H g c j))) := by
  rw [fp_as_lo L c hc] at ha
  have h1 := List.all_eq_true.mp fp_as_chk c (List.mem_range.mpr hc)
  rw [ha] at h1
  simp only [Bool.and_eq_true, Option.isNone_iff_eq_none, Bool.not_eq_true'] at h1
  unfold fp_ce
  rw [h1.1, h1.2, ha]
  rfl
theorem fp_as_len {L c : Nat} {ch : Bool} {n : Nat} (ha : fp_as L c = some (ch, n)) (hc : c < 26) : n < 2 ^ 31 := by
  rw [fp_as_lo L c hc] at ha
  have h1 : (List.range 26).all (fun c => match fp_as 0 c with
    | some (_, n) => decide (n < 2 ^ 31)
    | none => true) = true := by decide +kernel
  have h2 := List.all_eq_true.mp h1 c (List.mem_range.mpr hc)
  rw [ha] at h2
  exact of_decide_eq_true h2
theorem fp_up_ne {H : FpH} {g c i : Nat} {z : Int} {x : Nat × Nat} (h : x ≠ (g, c)) : fp_up H g c i z x.1 x.2 = H x.1 x.2 := by
  funext j
  unfold fp_up
  rw [if_neg]
  rintro ⟨h1, h2, -⟩
  exact h (Prod.ext h1 h2)
theorem fp_up_self {H : FpH} {g c i : Nat} {z : Int} : (fun j => fp_oi (fp_up H g c i z g c j)) = upd (fun j => fp_oi (H g c j)) i (fp_oi z) := by
  funext j
  unfold fp_up upd
  by_cases h : j = i
  · simp [h]
  · simp [h]
theorem fp_cp_ne {H : FpH} {g c g' c' sp dp n : Nat} {x : Nat × Nat} (h : x ≠ (g', c')) : fp_cp H g c g' c' sp dp n x.1 x.2 = H x.1 x.2 := by
  funext j
  unfold fp_cp
  rw [if_neg]
  rintro ⟨h1, h2, -⟩
  exact h (Prod.ext h1 h2)
theorem fp_cp_self {H : FpH} {g c g' c' sp dp n : Nat} : (fun j => fp_oi (fp_cp H g c g' c' sp dp n g' c' j)) = va_cpy (fun j => fp_oi (H g c j)) (fun j => fp_oi (H g' c' j)) sp dp n := by
  funext j
  unfold fp_cp va_cpy
  by_cases h : dp ≤ j ∧ j < dp + n
  · rw [if_pos ⟨rfl, rfl, h⟩, if_pos h]
  · rw [if_neg (fun q => h q.2.2), if_neg h]
section FPO
variable {ad : Nat → Nat → Nat} {cI cC cO : ClassId} {D : va_G} {L : Nat} {H : FpH}
variable {p : Program} {l : Launch} {e : Env} {R : Room} {s : State} {m : MethodId} {args : Array Value} {below : List Frame} {meth : Method} {c : Code} {Hp : Heap} {locs : List Loc} {cells slots : Nat} {Z : State → Prop}
variable {cc : ByteArray} {pc : Nat} {mls : Array Slot} {rest : List Value}
theorem fp_w_ld (hx : p.tables.exec = Jvm.exec) (hb : c.code = cc) (hK : va_K D fp_cl (fp_tys cI cC cO) s) (hP : va_P D fp_cl (fp_W ad cI cC cO H) Hp) (hS : va_S (fp_A ad) s.heap Hp locs) (hX : fp_X ad L H s)
    {i : Int} {g c0 n : Nat} (hi : fp_rg i) (hv : fp_okV (.inr (g, c0))) (has : fp_as L c0 = some (false, n)) (h0 : 0 ≤ i) (h1 : i < (n : Int)) (hd : decode cc pc = .ok (.iaload, 1))
    (kk : W p l e R s m args below meth c Hp locs cells slots Z (F0 m (pc + 1) mls (.int (fp_oi (H g c0 i.toNat)) :: rest))) : W p l e R s m args below meth c Hp locs cells slots Z (F0 m pc mls (.int (fp_oi i) :: .ref (ad g c0) :: rest)) := by
  obtain ⟨hin, ht⟩ := fp_oi_in hi h0 h1
  rcases hv with h | ⟨rfl, h⟩
  · have hc := fp_mem.mp h
    obtain ⟨k, -, hk⟩ := fp_at (ad := ad) (cI := cI) (cC := cC) (cO := cO) H h
    rw [fp_arr_cell has (by omega)] at hk
    refine va_iald hx hb hK hP k 0 hk rfl hin hd ?_
    rw [ht]; exact kk
  · obtain ⟨n', a1, a2, a3, a4⟩ := hX.1 c0 h
    cases has.symm.trans a1
    refine va_sld hx hb a2 a3 a4 hS hin hd ?_
    rw [ht]; exact kk
theorem fp_w_cld (hx : p.tables.exec = Jvm.exec) (hb : c.code = cc) (hK : va_K D fp_cl (fp_tys cI cC cO) s) (hP : va_P D fp_cl (fp_W ad cI cC cO H) Hp) (hX : fp_X ad L H s)
    {i : Int} {g c0 n : Nat} (hi : fp_rg i) (hv : fp_okV (.inr (g, c0))) (has : fp_as L c0 = some (true, n)) (h0 : 0 ≤ i) (h1 : i < (n : Int)) (hd : decode cc pc = .ok (.caload, 1))
    (kk : W p l e R s m args below meth c Hp locs cells slots Z (F0 m (pc + 1) mls (.int (fp_oi (H g c0 i.toNat)) :: rest))) : W p l e R s m args below meth c Hp locs cells slots Z (F0 m pc mls (.int (fp_oi i) :: .ref (ad g c0) :: rest)) := by
  obtain ⟨hin, ht⟩ := fp_oi_in hi h0 h1
  rcases hv with h | ⟨rfl, h⟩
  · have hc := fp_mem.mp h
    obtain ⟨k, -, hk⟩ := fp_at (ad := ad) (cI := cI) (cC := cC) (cO := cO) H h
    rw [fp_arr_cell has (by omega)] at hk
    refine va_cald hx hb hK hP k 1 hk rfl hin hd ?_
    rw [ht]; exact kk
  · obtain ⟨n', a1, -⟩ := hX.1 c0 h
    cases has.symm.trans a1
theorem fp_w_st (hj : fp_inj ad) (hx : p.tables.exec = Jvm.exec) (hb : c.code = cc) (hK : va_K D fp_cl (fp_tys cI cC cO) s) (hP : va_P D fp_cl (fp_W ad cI cC cO H) Hp) (hS : va_S (fp_A ad) s.heap Hp locs)
    {i z : Int} {g c0 n : Nat} (hi : fp_rg i) (hv : fp_okV (.inr (g, c0))) (hw : c0 ≤ 25) (has : fp_as L c0 = some (false, n)) (h0 : 0 ≤ i) (h1 : i < (n : Int)) (hd : decode cc pc = .ok (.iastore, 1))
    (kk : ∀ (Hp1 : Heap) (locs1 : List Loc), va_P D fp_cl (fp_W ad cI cC cO (fp_up H g c0 i.toNat z)) Hp1 → va_S (fp_A ad) s.heap Hp1 locs1 → W p l e R s m args below meth c Hp1 locs1 cells slots Z (F0 m (pc + 1) mls rest)) : W p l e R s m args below meth c Hp locs cells slots Z (F0 m pc mls (.int (fp_oi z) :: .int (fp_oi i) :: .ref (ad g c0) :: rest)) := by
  obtain ⟨hin, ht⟩ := fp_oi_in hi h0 h1
  have h : (g, c0) ∈ fp_cells := hv.resolve_right (by omega)
  obtain ⟨k, hk0, hk⟩ := fp_at (ad := ad) (cI := cI) (cC := cC) (cO := cO) H h
  rw [fp_arr_cell has (by omega)] at hk
  refine va_iast hx hb hK hP (fp_D hj H) hS k 0 hk rfl hin hd (fun Hp1 locs1 hP1 _ hS1 => kk Hp1 locs1 ?_ hS1)
  have e := fp_W_set (ad := ad) (cI := cI) (cC := cC) (cO := cO) (H := H) (H' := fp_up H g c0 i.toNat z) hk0 (fun x _ hx => fp_ce_congr (fp_up_ne hx))
  rw [fp_arr_cell has (by omega), fp_up_self] at e
  rw [ht] at hP1
  rw [← e]; exact hP1
theorem fp_w_cst (hj : fp_inj ad) (hx : p.tables.exec = Jvm.exec) (hb : c.code = cc) (hK : va_K D fp_cl (fp_tys cI cC cO) s) (hP : va_P D fp_cl (fp_W ad cI cC cO H) Hp) (hS : va_S (fp_A ad) s.heap Hp locs)
    {i z : Int} {g c0 n : Nat} (hi : fp_rg i) (hz : 0 ≤ z ∧ z < 65536) (hv : fp_okV (.inr (g, c0))) (hw : c0 ≤ 25) (has : fp_as L c0 = some (true, n)) (h0 : 0 ≤ i) (h1 : i < (n : Int)) (hd : decode cc pc = .ok (.castore, 1))
    (kk : ∀ (Hp1 : Heap) (locs1 : List Loc), va_P D fp_cl (fp_W ad cI cC cO (fp_up H g c0 i.toNat z)) Hp1 → va_S (fp_A ad) s.heap Hp1 locs1 → W p l e R s m args below meth c Hp1 locs1 cells slots Z (F0 m (pc + 1) mls rest)) : W p l e R s m args below meth c Hp locs cells slots Z (F0 m pc mls (.int (fp_oi z) :: .int (fp_oi i) :: .ref (ad g c0) :: rest)) := by
  obtain ⟨hin, ht⟩ := fp_oi_in hi h0 h1
  have h : (g, c0) ∈ fp_cells := hv.resolve_right (by omega)
  obtain ⟨k, hk0, hk⟩ := fp_at (ad := ad) (cI := cI) (cC := cC) (cO := cO) H h
  rw [fp_arr_cell has (by omega)] at hk
  have hn : vp_nar .char (fp_oi z) = fp_oi z := by
    rw [vp_nar_char]
    have h1 := fp_oi_i2c (x := z) ⟨by omega, by omega⟩
    have h2 : (fp_oi z).toUInt32.toUInt16.toUInt32.toInt32 = ((fp_oi z).toUInt32 % 65536).toInt32 := by
      congr 1
    rw [h2, h1, show z % 65536 = z by omega]
  refine va_cast hx hb hK hP (fp_D hj H) hS k 1 hk rfl hin hd (fun Hp1 locs1 hP1 _ hS1 => kk Hp1 locs1 ?_ hS1)
  have e := fp_W_set (ad := ad) (cI := cI) (cC := cC) (cO := cO) (H := H) (H' := fp_up H g c0 i.toNat z) hk0 (fun x _ hx => fp_ce_congr (fp_up_ne hx))
  rw [fp_arr_cell has (by omega), fp_up_self] at e
  rw [ht, hn] at hP1
  rw [← e]; exact hP1
theorem fp_w_ald (hx : p.tables.exec = Jvm.exec) (hb : c.code = cc) (hK : va_K D fp_cl (fp_tys cI cC cO) s) (hP : va_P D fp_cl (fp_W ad cI cC cO H) Hp)
    {i : Int} {g : Nat} (hi : fp_rg i) (hv : fp_okV (.inr (g, 16))) (h0 : 0 ≤ i) (h1 : i < 4) (hd : decode cc pc = .ok (.aaload, 1))
    (kk : W p l e R s m args below meth c Hp locs cells slots Z (F0 m (pc + 1) mls (.ref (ad (3 + i.toNat) 0) :: rest))) : W p l e R s m args below meth c Hp locs cells slots Z (F0 m pc mls (.int (fp_oi i) :: .ref (ad g 16) :: rest)) := by
  obtain ⟨hin, ht⟩ := fp_oi_in (n := 4) hi h0 h1
  have h : (g, 16) ∈ fp_cells := hv.resolve_right (by omega)
  obtain ⟨k, hk0, hk⟩ := fp_at (ad := ad) (cI := cI) (cC := cC) (cO := cO) H h
  have hk : (fp_W ad cI cC cO H)[k]? = some (ad g 16, .inl (cO, 4, .inr (.inr (.inr (.inr (fun i => if i < 4 then some (ad (3 + i) 0) else none)))))) := hk
  refine va_aldq hx hb hK hP k 2 hk rfl hin hd ?_
  rw [ht, if_pos (by omega)]
  exact kk
theorem fp_w_len (hx : p.tables.exec = Jvm.exec) (hb : c.code = cc) (hK : va_K D fp_cl (fp_tys cI cC cO) s) (hP : va_P D fp_cl (fp_W ad cI cC cO H) Hp) (hS : va_S (fp_A ad) s.heap Hp locs) (hX : fp_X ad L H s)
    {g c0 n : Nat} {ch : Bool} (hv : fp_okV (.inr (g, c0))) (has : fp_as L c0 = some (ch, n)) (hd : decode cc pc = .ok (.arraylength, 1))
    (kk : W p l e R s m args below meth c Hp locs cells slots Z (F0 m (pc + 1) mls (.int (fp_oi (n : Int)) :: rest))) : W p l e R s m args below meth c Hp locs cells slots Z (F0 m pc mls (.ref (ad g c0) :: rest)) := by
  rw [fp_oi_n] at kk
  rcases hv with h | ⟨rfl, h⟩
  · have hc := fp_mem.mp h
    obtain ⟨k, -, hk⟩ := fp_at (ad := ad) (cI := cI) (cC := cC) (cO := cO) H h
    rw [fp_arr_cell has (by omega)] at hk
    cases ch
    · exact va_alen hx hb hK hP k 0 hk rfl rfl hd kk
    · exact va_alen hx hb hK hP k 1 hk rfl rfl hd kk
  · obtain ⟨n', a1, a2, a3, a4⟩ := hX.1 c0 h
    cases has.symm.trans a1
    exact va_slen hx hb a2 a3 a4 hS hd kk
end FPO
end
section
section FPP
variable {ad : Nat → Nat → Nat} {cI cC cO : ClassId} {D : va_G} {L : Nat} {H : FpH}
variable {p : Program} {l : Launch} {e : Env} {R : Room} {s : State} {m : MethodId} {args : Array Value} {below : List Frame} {meth : Method} {c : Code} {Hp : Heap} {locs : List Loc} {cells slots : Nat} {Z : State → Prop}
variable {cc : ByteArray} {pc n : Nat} {mls : Array Slot} {rest : List Value} {own : String}
theorem fp_w_get (hC : CallFix p m c cc n s args fp_tb own) (hK : va_K D fp_cl (fp_tys cI cC cO) s) (hP : va_P D fp_cl (fp_W ad cI cC cO H) Hp)
    {g c0 a b idx w : Nat} {st : List FpV} {P : FpV → Prop} (hv : fp_okV (.inr (g, c0))) (hH : fp_okH H) (hF : fp_chkF own idx a b w = true) (hf : fp_fd H g c0 a b P) (hd : decode cc pc = .ok (.getfield idx, 3))
    (kk : ∀ v : FpV, P v → fp_okV v → W p l e R s m args below meth c Hp locs cells slots Z (F0 m (pc + 3) mls (fp_tr ad v :: rest))) : W p l e R s m args below meth c Hp locs cells slots Z (F0 m pc mls (.ref (ad g c0) :: rest)) := by
  obtain ⟨hx, hb, hml, hown, hts⟩ := hC
  obtain ⟨C, T, N, hcl, hbN, hTC, hlk⟩ := fp_chkF_out hF
  obtain ⟨hin, -, -⟩ := fp_cok hcl
  unfold fp_fd at hf
  split at hf
  · rename_i ci fs ho
    obtain ⟨hci, hf2⟩ := fp_cond_out hf
    clear hf
    have hf := hf2
    clear hf2
    have hci : ci = a := Nat.eq_of_beq_eq_true hci
    subst hci
    have hm := fp_obj hv ho
    obtain ⟨k, -, hk⟩ := fp_at (ad := ad) (cI := cI) (cC := cC) (cO := cO) H hm
    have hk : (fp_W ad cI cC cO H)[k]? = some (ad g c0, .inr (ci, fp_fv ad H g c0 0 fs)) := by
      rw [hk]; unfold fp_ce; rw [ho]
    have go : ∀ v : FpV, (fp_fv ad H g c0 0 fs)[b]? = some (fp_tr ad v) → P v → fp_okV v → W p l e R s m args below meth c Hp locs cells slots Z (F0 m pc mls (.ref (ad g c0) :: rest)) := fun v hvv hPv hov =>
      va_get hx hb hts hin hown hK hP k hk hcl b hbN (hts _ hlk) (fun x h => by rw [hTC] at h; exact h) hvv hd (kk v hPv hov)
    split at hf
    · rename_i g' c' hn
      have hr := fp_fv_ref (ad := ad) (H := H) (g := g) (c := c0) fs 0 b hn
      rcases fp_obj_ref hm ho hn with ⟨h1, h2⟩ | ⟨h1, h2⟩
      · rw [h1] at hf hr
        exact go (.inr (g, c')) hr hf (Or.inl h2)
      · rw [h1] at hf hr
        exact go (.inr (g', c')) hr hf (Or.inl h2)
    · rename_i hn
      have hr := fp_fv_int (ad := ad) (H := H) (g := g) (c := c0) fs 0 b hn
      rw [Nat.zero_add] at hr
      exact go (.inl (H g c0 b)) hr hf (hH _ _ _)
    · exact hf.elim
  · exact hf.elim
theorem fp_w_put (hj : fp_inj ad) (hC : CallFix p m c cc n s args fp_tb own) (hK : va_K D fp_cl (fp_tys cI cC cO) s) (hP : va_P D fp_cl (fp_W ad cI cC cO H) Hp) (hS : va_S (fp_A ad) s.heap Hp locs)
    {g c0 a b idx w : Nat} {z : Int} (hv : fp_okV (.inr (g, c0))) (hF : fp_chkF own idx a b w = true) (hG : fp_chkP a b = true) (hf : fp_fw c0 a b = true) (hz : ((Nat.beq a 6 && Nat.beq b 3) || (Nat.beq a 7 && Nat.beq b 2)) = true → z = 0 ∨ z = 1) (hd : decode cc pc = .ok (.putfield idx, 3))
    (kk : ∀ (Hp1 : Heap) (locs1 : List Loc), va_P D fp_cl (fp_W ad cI cC cO (fp_up H g c0 b z)) Hp1 → va_S (fp_A ad) s.heap Hp1 locs1 → W p l e R s m args below meth c Hp1 locs1 cells slots Z (F0 m (pc + 3) mls rest)) : W p l e R s m args below meth c Hp locs cells slots Z (F0 m pc mls (.int (fp_oi z) :: .ref (ad g c0) :: rest)) := by
  obtain ⟨hx, hb, hml, hown, hts⟩ := hC
  obtain ⟨C, T, N, hcl, hbN, hTC, hlk⟩ := fp_chkF_out hF
  obtain ⟨hin, ⟨ty0, hty⟩, hnm⟩ := fp_cok hcl
  unfold fp_chkP at hG
  rw [hcl] at hG
  simp only [Bool.and_eq_true, decide_eq_true_eq] at hG
  obtain ⟨hfin, hG⟩ := hG
  unfold fp_fw at hf
  split at hf
  · rename_i ci fs ho
    cases hci : Nat.beq ci a with
    | false => rw [hci] at hf; cases hf
    | true =>
      rw [hci] at hf
      have hci : ci = a := Nat.eq_of_beq_eq_true hci
      subst hci
      have hm := fp_obj hv ho
      have hn : fp_nth fs b = some none := by
        simp only [cond_true] at hf
        split at hf
        · assumption
        · cases hf
      obtain ⟨k, hk0, hk⟩ := fp_at (ad := ad) (cI := cI) (cC := cC) (cO := cO) H hm
      have hk : (fp_W ad cI cC cO H)[k]? = some (ad g c0, .inr (ci, fp_fv ad H g c0 0 fs)) := by
        rw [hk]; unfold fp_ce; rw [ho]
      have eW := fp_W_set (ad := ad) (cI := cI) (cC := cC) (cO := cO) (H := H) (H' := fp_up H g c0 b z) hk0 (fun x _ hx => fp_ce_congr (fp_up_ne hx))
      have e2 : fp_ce ad cI cC cO (fp_up H g c0 b z) g c0 = .inr (ci, (fp_fv ad H g c0 0 fs).set b (.int (fp_oi z))) := by
        rw [fp_fv_set fs 0 b hn, Nat.zero_add]
        unfold fp_ce; rw [ho]
      rw [e2] at eW
      have hlen : b < (fp_fv ad H g c0 0 fs).length := by rw [fp_fv_len]; exact fp_nth_lt fs b hn
      have hkk : ∀ (Hp1 : Heap) (locs1 : List Loc), va_P D fp_cl ((fp_W ad cI cC cO H).set k (ad g c0, .inr (ci, (fp_fv ad H g c0 0 fs).set b (.int (fp_oi z))))) Hp1 → va_D (fp_A ad) ((fp_W ad cI cC cO H).set k (ad g c0, .inr (ci, (fp_fv ad H g c0 0 fs).set b (.int (fp_oi z))))) → va_S (fp_A ad) s.heap Hp1 locs1 → W p l e R s m args below meth c Hp1 locs1 cells slots Z (F0 m (pc + 3) mls rest) :=
        fun Hp1 locs1 hP1 _ hS1 => kk Hp1 locs1 (by rw [← eW]; exact hP1) hS1
      cases hbl : (Nat.beq ci 6 && Nat.beq b 3) || (Nat.beq ci 7 && Nat.beq b 2) with
      | true =>
        rw [hbl] at hG
        have hT : (T b).2.2.1 = "Z" := of_decide_eq_true hG
        have hn01 : narrow .boolean (.int (fp_oi z)) = .int (fp_oi z) ∧ fits .boolean (.int (fp_oi z)) = true := by
          rcases hz hbl with rfl | rfl
          · exact ⟨by rw [fp_oi_0]; rfl, by rw [fp_oi_0]; rfl⟩
          · rw [show fp_oi 1 = 1 by decide +kernel]; exact ⟨rfl, rfl⟩
        exact va_put hx hb hts hin ty0 hty hnm hown hK hP (fp_D hj H) hS k hk hcl b hbN (hts _ hlk) (fun x h => by rw [hTC] at h; exact h) hfin (ty := .boolean) (by rw [hT]; decide +kernel) hn01.1 hn01.2 hlen hd hkk
      | false =>
        rw [hbl] at hG
        have hT : (T b).2.2.1 = "I" := of_decide_eq_true hG
        exact va_put hx hb hts hin ty0 hty hnm hown hK hP (fp_D hj H) hS k hk hcl b hbN (hts _ hlk) (fun x h => by rw [hTC] at h; exact h) hfin (ty := .int) (by rw [hT]; decide +kernel) rfl rfl hlen hd hkk
  · cases hf
theorem fp_w_copy (hj : fp_inj ad) (hC : CallFix p m c cc n s args fp_tb own) (hml : mls.size = n) (hK : va_K D fp_cl (fp_tys cI cC cO) s) (hP : va_P D fp_cl (fp_W ad cI cC cO H) Hp) (hS : va_S (fp_A ad) s.heap Hp locs) (hR : 1 ≤ R.frames ∧ 32 ≤ R.locals)
    {g c0 g' c1 n0 n1 idx : Nat} {k dp sp : Int} (hk : fp_rg k) (hdp : fp_rg dp) (hsp : fp_rg sp) (hv : fp_okV (.inr (g, c0))) (hv' : fp_okV (.inr (g', c1))) (hw : c0 ≤ 25) (hw' : c1 ≤ 25) (ha : fp_as L c0 = some (false, n0)) (ha' : fp_as L c1 = some (false, n1))
    (h1 : 0 ≤ k) (h2 : 0 ≤ sp) (h3 : 0 ≤ dp) (h4 : sp + k ≤ (n0 : Int)) (h5 : dp + k ≤ (n1 : Int)) (hlk : Cond.methodLink own idx arraycopyName ∈ fp_tb) (hcat : (rest.map fun v => v.category).sum ≤ 8) (hd : decode cc pc = .ok (.invokestatic idx, 3))
    (kk : ∀ (Hp1 : Heap) (locs1 : List Loc), va_P D fp_cl (fp_W ad cI cC cO (fp_cp H g c0 g' c1 sp.toNat dp.toNat k.toNat)) Hp1 → va_S (fp_A ad) s.heap Hp1 locs1 → W p l e R s m args below meth c Hp1 locs1 cells slots Z (F0 m (pc + 3) mls rest)) :
    W p l e R s m args below meth c Hp locs cells slots Z (F0 m pc mls (.int (fp_oi k) :: .int (fp_oi dp) :: .ref (ad g' c1) :: .int (fp_oi sp) :: .ref (ad g c0) :: rest)) := by
  obtain ⟨hx, hb, hml', hown, hts⟩ := hC
  have hm : (g, c0) ∈ fp_cells := hv.resolve_right (by omega)
  have hm' : (g', c1) ∈ fp_cells := hv'.resolve_right (by omega)
  obtain ⟨q0, hq0, hk0⟩ := fp_at (ad := ad) (cI := cI) (cC := cC) (cO := cO) H hm
  obtain ⟨q1, hq1, hk1⟩ := fp_at (ad := ad) (cI := cI) (cC := cC) (cO := cO) H hm'
  rw [fp_arr_cell ha (by omega)] at hk0
  rw [fp_arr_cell ha' (by omega)] at hk1
  obtain ⟨a1, b1⟩ := fp_oi_nn hsp h2
  obtain ⟨a2, b2⟩ := fp_oi_nn hdp h3
  obtain ⟨a3, b3⟩ := fp_oi_nn hk h1
  refine va_copyi hx hb (by rw [hml', hml]) hown (hts _ hlk) (hts _ fp_wac.2.1) (hts _ fp_wac.1) (hts _ fp_wac.2.2) hK hP (fp_D hj H) hS q0 q1 0 0 hk0 hk1 rfl rfl rfl a1 a2 a3 (by rw [b1, b3]; omega) (by rw [b2, b3]; omega) (fun _ _ => rfl) hR.1
    (by have : nativeFrameWords "java/lang/System" "arraycopy" 5 = 7 := by decide +kernel
        omega) hd (fun Hp1 locs1 hP1 _ hS1 => kk Hp1 locs1 ?_ hS1)
  have eW := fp_W_set (ad := ad) (cI := cI) (cC := cC) (cO := cO) (H := H) (H' := fp_cp H g c0 g' c1 sp.toNat dp.toNat k.toNat) hq1 (fun x _ hx => fp_ce_congr (fp_cp_ne hx))
  rw [fp_arr_cell ha' (by omega), fp_cp_self] at eW
  rw [b1, b2, b3] at hP1
  rw [← eW]; exact hP1
theorem fp_w_max (hC : CallFix p m c cc n s args fp_tb own) (hml : mls.size = n) (hR : 1 ≤ R.frames ∧ 32 ≤ R.locals) (hcs : cells ≤ R.cells ∧ slots ≤ R.slots) {idx : Nat} {x y : Int} (hx' : fp_rg x) (hy : fp_rg y) (hlk : Cond.methodLink own idx Lib.Math.max.name ∈ fp_tb) (hcat : (rest.map fun v => v.category).sum ≤ 8) (hd : decode cc pc = .ok (.invokestatic idx, 3))
    (kk : W p l e R s m args below meth c Hp locs cells slots Z (F0 m (pc + 3) mls (.int (fp_oi (if x < y then y else x)) :: rest))) : W p l e R s m args below meth c Hp locs cells slots Z (F0 m pc mls (.int (fp_oi y) :: .int (fp_oi x) :: rest)) := by
  obtain ⟨hx, hb, hml', hown, hts⟩ := hC
  refine va_mmax hx hb (by rw [hml', hml]) hown (hts _ hlk) (hts _ fp_wmm.1) (hts _ fp_wmm.2.2) (hts _ fp_wmm.2.1) hR.1 (by omega) hcs.1 hcs.2 hd ?_
  by_cases h : x < y
  · rw [if_pos h] at kk
    rw [if_pos ((fp_oi_lt hx' hy).mpr h)]; exact kk
  · rw [if_neg h] at kk
    rw [if_neg (fun q => h ((fp_oi_lt hx' hy).mp q))]; exact kk
end FPP
end
section
section FPR
variable {ad : Nat → Nat → Nat} {cI cC cO : ClassId} {l : Launch} {D : va_G} {L : Nat}
def fp_ws (y : MethodName) (c : ByteArray) (n : Nat) (r : Option FieldType) : List Cond := .code y c n r :: fp_tb
def fp_B (ad : Nat → Nat → Nat) (cI cC cO : ClassId) (D : va_G) (L : Nat) (H : FpH) (U : State) : Prop :=
  va_P D fp_cl (fp_W ad cI cC cO H) U.heap ∧ va_K D fp_cl (fp_tys cI cC cO) U ∧ fp_X ad L H U ∧ ∀ w ∈ fp_nw, va_Nw w U
def fp_E (ad : Nat → Nat → Nat) (cI cC cO : ClassId) (D : va_G) (L : Nat) (H : FpH) (t : State) : Prop := va_P D fp_cl (fp_W ad cI cC cO H) t.heap ∧ fp_X ad L H t
def fp_Qm (ad : Nat → Nat → Nat) (cI cC cO : ClassId) (D : va_G) (L : Nat) (r : Option FieldType) (K : FpQ) : Array Value → State → Outcome → State → Prop := match r with
  | none => va_Qv (fun H' : FpH => fp_okH H' ∧ K none H') (fp_E ad cI cC cO D L) (fp_A ad)
  | some _ => va_Qi (fun (x : Int32) (H' : FpH) => fp_okH H' ∧ K (some (.inl x.toInt)) H') (fp_E ad cI cC cO D L) (fp_A ad)
theorem fp_nw_moved {s U : State} (h : ∀ w ∈ fp_nw, va_Nw w s) (hW : s.WarmedH U.vm) : ∀ w ∈ fp_nw, va_Nw w U := by
  intro w hw
  have h1 := h w hw
  simp only [fp_nw, List.mem_cons, List.not_mem_nil, or_false] at hw
  rcases hw with rfl | rfl | rfl <;> exact va_Nw.warmM hW h1
theorem fp_nw_same {s U : State} (h : ∀ w ∈ fp_nw, va_Nw w s) (hW : s.vm = U.vm) : ∀ w ∈ fp_nw, va_Nw w U := by
  intro w hw
  have h1 := h w hw
  simp only [fp_nw, List.mem_cons, List.not_mem_nil, or_false] at hw
  rcases hw with rfl | rfl | rfl <;> exact va_Nw.same rfl hW h1
theorem fp_X_of {H : FpH} {s U : State} {Hp : Heap} {locs : List Loc} (h : fp_X ad L H s) (hvm : s.vm.Alike U.vm) (hU : U.heap = Hp) (hS : va_S (fp_A ad) s.heap Hp locs) {H' : FpH} (hH : H' 9 26 = H 9 26 ∧ H' 9 27 = H 9 27 ∧ H' 9 28 = H 9 28) : fp_X ad L H' U :=
  fp_X_to h hvm (by rw [hU]; exact hS.1) (fun q h1 h2 => by rw [hU]; exact hS.2.1 q h1 h2) hH
theorem fp_lv_en : ∀ (vs : List FpV) (k j : Nat), fp_lv ad j (vs.map some ++ List.replicate k none) = lv_args j (vs.map (fp_tr ad))
  | [], 0, j => rfl
  | [], k + 1, j => by
    have := fp_lv_en [] k (j + 1)
    simp only [List.map_nil, List.nil_append, List.replicate_succ, fp_lv] at this ⊢
    rw [this]; rfl
  | v :: vs, k, j => by
    simp only [List.map_cons, List.cons_append, fp_lv, lv_args]
    rw [if_neg (by rw [fp_tr_cat]; decide), fp_lv_en vs k (j + 1)]
theorem fp_sl_len (vs : List FpV) : (lg_sl (vs.map (fp_tr ad))).length = vs.length := by
  induction vs with
  | nil => rfl
  | cons v vs ih =>
    have h : lg_sl ((v :: vs).map (fp_tr ad)) = .val (fp_tr ad v) :: lg_sl (vs.map (fp_tr ad)) := by
      simp only [lg_sl, List.map_cons, List.flatMap_cons, fp_tr_cat]
      rfl
    rw [h, List.length_cons, ih, List.length_cons]
theorem fp_m_lt {u : Nat} {q : FpM} (h : fp_M[u]? = some q) : u < 140 := by
  have := (List.getElem?_eq_some_iff.mp h).1
  rw [fp_lenM] at this
  exact this
/-- what the tables say of a method -/
theorem fp_mf {u ci n : Nat} {y : MethodName} {cc : ByteArray} {r : Option FieldType} {b : Bool} (hM : fp_M[u]? = some (ci, y, cc, n, r, b)) (hu : 1 ≤ u) :
    (y.cls = fp_rx ci ∧ plainName y.cls = true ∧ (y.cls ≠ "java/lang/invoke/MethodHandle" ∧ y.cls ≠ "java/lang/invoke/VarHandle") ∧ n ≤ 13 ∧ ci < 8 ∧ fp_nlL[u]? = some n) ∧ Cond.initialized y.cls ∈ fp_tb ∧ Cond.code y cc n r ∈ fp_tb ∧
    (r = none ∨ r = some .int ∨ r = some .boolean) ∧ (if b then Cond.static y ∈ fp_tb else Cond.instanceMethod y ∈ fp_tb ∧ Cond.selects y.cls y y ∈ fp_tb) := by
  have hl := fp_m_lt hM
  have h1 := List.all_eq_true.mp fp_ckM u (List.mem_range.mpr hl)
  unfold fp_chkM at h1
  rw [hM] at h1
  obtain ⟨q, hq⟩ : ∃ q, fp_pl[u]? = some q := ⟨_, List.getElem?_eq_getElem (by rw [fp_lenP]; exact hl)⟩
  rw [hq] at h1
  obtain ⟨p1, p2, p3, p4⟩ := q
  have hz : Nat.beq u 0 = false := by
    cases u with
    | zero => omega
    | succ u => rfl
  simp only [hz, cond_false, Bool.and_eq_true, Bool.or_eq_true, decide_eq_true_eq] at h1
  obtain ⟨⟨⟨⟨⟨⟨⟨⟨⟨e1, e2⟩, e3⟩, e4⟩, e5⟩, -⟩, e6⟩, e7⟩, e8⟩, ⟨⟨e9, e10⟩, e11⟩⟩ := h1
  have hcode : lw_tbl[p1]? = some (Cond.code y cc n r) := by
    have h2 := congrArg (fun z => z[u - 1]?) fp_ckW
    simp only [List.getElem?_map, List.getElem?_drop] at h2
    rw [show 1 + (u - 1) = u by omega, hM, hq] at h2
    exact (Option.some.inj h2).symm
  refine ⟨⟨e1, e2, ⟨e3, e4⟩, e5, e9, e6⟩, fp_in e7 e8, fp_in hcode (by rfl), ?_, ?_⟩
  · rcases e11 with (h | h) | h
    · exact Or.inl h
    · exact Or.inr (Or.inl h)
    · exact Or.inr (Or.inr h)
  · cases b with
    | true =>
      simp only [cond_true, Bool.and_eq_true, decide_eq_true_eq] at e10
      exact fp_in e10.1 e10.2
    | false =>
      simp only [cond_false, Bool.and_eq_true, decide_eq_true_eq] at e10
      exact ⟨fp_in e10.1.1.1 e10.1.1.2, fp_in e10.1.2 e10.2⟩
theorem fp_blind {H : FpH} {as : List Value} : FrameBlind (va_Pc as (fp_B ad cI cC cO D L H)) := by
  rintro a U g mk ⟨rfl, h1, h2, h3, h4⟩
  exact ⟨rfl, h1, va_K.moved (u := U) (U := U.calling g mk as.toArray) (Vm.Alike.refl U.vm) h2, fp_X_to h3 (Vm.Alike.refl U.vm) (Nat.le_refl _) (fun _ _ _ => rfl) ⟨rfl, rfl, rfl⟩, fp_nw_same h4 rfl⟩
set_option maxHeartbeats 4000000 in
set_option maxRecDepth 100000 in
theorem fp_met (hj : fp_inj ad) {u ci n : Nat} {y : MethodName} {cc : ByteArray} {r : Option FieldType} {b : Bool} (hM : fp_M[u]? = some (ci, y, cc, n, r, b)) (hu : 1 ≤ u) {d : Nat} {as : List FpV} {H : FpH} {K : FpQ}
    (h : fp_Xm ad cI cC cO l D L d u 0 (fp_en u as) [] H K) (hH : fp_okH H) (ha : ∀ v ∈ as, fp_okV v) (hn : as.length ≤ n) :
    Met l y (fp_ws y cc n r) ({ frames := d + 1, cells := 0, slots := 0, locals := 32 * (d + 1) }) (va_Pc (as.map (fp_tr ad)) (fp_B ad cI cC cO D L H)) (fp_Qm ad cI cC cO D L r K) 0 0 (fp_A ad) := by
  obtain ⟨⟨f1, f2, f3, f4, f5, f6⟩, -, -, fr, -⟩ := fp_mf hM hu
  refine Met.ofW (cc := cc) (maxL := n) (ret := r) f2 rfl ?_
  intro p e s m args below meth c s₁ B hml hv
  obtain ⟨rfl, hP, hK, hX, hN⟩ := hv
  have hts0 := atoms_spec (ws := fp_ws y cc n r) B.pre
  have hown : s.vm.findClass (fp_rx ci) = some m.cls := f1 ▸ findClass_of_methodNamed B.named
  have hen : fp_en u as = as.map some ++ List.replicate (n - as.length) none := by
    unfold fp_en
    rw [List.getD_eq_getElem?_getD, f6]; rfl
  have hl := lv_entry (as.map (fp_tr ad)) (n := n) (by rw [fp_sl_len]; exact hn)
  rw [lg_entry_eq]
  refine h p e _ s m _ below meth c s.heap [] 0 0 _ _ ci n y cc r b hM ⟨B.exec, B.bytes, hml, hown, fun w hw => hts0 w (List.mem_cons_of_mem _ hw)⟩ hN ⟨Nat.le_refl _, Nat.le_refl _, Nat.zero_le _, Nat.zero_le _⟩ hX hK hP va_S.rf hH (fun v hv => (List.not_mem_nil hv).elim) ?_ ?_ ?_
  · intro v hv
    rw [hen] at hv
    rcases List.mem_append.mp hv with q | q
    · obtain ⟨w, hw, e⟩ := List.mem_map.mp q
      cases e
      exact ha v hw
    · exact absurd (List.eq_of_mem_replicate q) (by intro e; cases e)
  · rw [hen, fp_lv_en]; exact hl
  · intro pc' mls' H' Hp' locs' v a1 a2 a3 a4 a5 a6 a7
    have hend : ∀ t : State, t.heap = Hp' → s.WarmedH t.vm → fp_E ad cI cC cO D L H' t := fun t ht hW => ⟨by rw [ht]; exact a2, fp_X_of a4 hW.alike ht a3 ⟨rfl, rfl, rfl⟩⟩
    rcases v with _ | (z | z)
    · obtain ⟨rfl, hdec⟩ := a6
      exact W.vret B.exec B.bytes B.returns (fun t ht hW => ⟨⟨H', rfl, ⟨a1, a5⟩, hend t ht hW⟩, a3.F ht⟩) a3.2.2 hdec B.notSynchronized
    · obtain ⟨hdec, hz, hr⟩ := a6
      have hq : (r = some .int ∨ r = some .boolean) → ∀ t : State, t.heap = Hp' → s.WarmedH t.vm → fp_Qm ad cI cC cO D L r K (as.map (fp_tr ad)).toArray s (.returned (some (.int (fp_oi z)))) t := fun hr t ht hW => by
        have : va_Qi (fun (x : Int32) (H' : FpH) => fp_okH H' ∧ K (some (.inl x.toInt)) H') (fp_E ad cI cC cO D L) (fp_A ad) (as.map (fp_tr ad)).toArray s (.returned (some (.int (fp_oi z)))) t := ⟨⟨fp_oi z, H', rfl, ⟨a1, by rw [fp_oi_T hz]; exact a5⟩, hend t ht hW⟩, a3.F ht⟩
        rcases hr with rfl | rfl <;> exact this
      rcases hr with rfl | ⟨rfl, hz01⟩
      · exact W.iret B.exec B.bytes B.returns (hq (Or.inl rfl)) a3.2.2 hdec B.notSynchronized
      · refine W.zret B.exec B.bytes B.returns ?_ (hq (Or.inr rfl)) a3.2.2 hdec B.notSynchronized
        rcases hz01 with rfl | rfl
        · rw [fp_oi_0]; rfl
        · rw [show fp_oi 1 = 1 by decide +kernel]; rfl
    · exact a6.elim
end FPR
end
section
section FPU
variable {ad : Nat → Nat → Nat} {cI cC cO : ClassId} {l : Launch} {D : va_G} {L : Nat}
theorem fp_dec {cc : ByteArray} {pc k : Nat} {i : Instr} (h : decode cc pc = .ok (i, pc + k - pc)) : decode cc pc = .ok (i, k) := by
  rw [h, Nat.add_sub_cancel_left]
theorem fp_okc {v : FpV} {st : List FpV} (h : fp_okV v) (hs : ∀ v ∈ st, fp_okV v) : ∀ w ∈ v :: st, fp_okV w := List.forall_mem_cons.mpr ⟨h, hs⟩
theorem fp_okt {v : FpV} {st : List FpV} (hs : ∀ w ∈ v :: st, fp_okV w) : fp_okV v ∧ ∀ v ∈ st, fp_okV v := List.forall_mem_cons.mp hs
theorem fp_ld_out {ch : Bool} {H : FpH} {i : Int} {g c : Nat} {P : Int → Prop} (h : fp_ld L ch H i g c P) : ∃ n, fp_as L c = some (ch, n) ∧ 0 ≤ i ∧ i < (n : Int) ∧ P (H g c i.toNat) := by
  unfold fp_ld at h; split at h
  · rename_i b n ha
    obtain ⟨h1, h2⟩ := fp_cond_out h
    have : b = ch := eq_of_beq h1
    subst this
    exact ⟨n, ha, h2.1.1, h2.1.2, h2.2⟩
  · exact h.elim
theorem fp_st_out {ch : Bool} {i : Int} {c : Nat} {P : Prop} (h : fp_st L ch i c P) : ∃ n, fp_as L c = some (ch, n) ∧ c ≤ 25 ∧ 0 ≤ i ∧ i < (n : Int) ∧ P := by
  unfold fp_st at h; split at h
  · rename_i b n ha
    obtain ⟨h1, h2⟩ := fp_cond_out h
    rw [Bool.and_eq_true] at h1
    have : b = ch := eq_of_beq h1.1
    subst this
    exact ⟨n, ha, Nat.le_of_ble_eq_true h1.2, h2.1.1, h2.1.2, h2.2⟩
  · exact h.elim
theorem fp_len_out {c : Nat} {P : Int → Prop} (h : fp_len L c P) : ∃ ch n, fp_as L c = some (ch, n) ∧ P (n : Int) := by
  unfold fp_len at h; split at h
  · rename_i ch n ha; exact ⟨ch, n, ha, h⟩
  · exact h.elim
theorem fp_cpy_out {n dp sp : Int} {c c' : Nat} {P : Prop} (h : fp_cpy L n dp c' sp c P) : ∃ m m', fp_as L c = some (false, m) ∧ fp_as L c' = some (false, m') ∧ c' ≤ 25 ∧ c ≤ 25 ∧ (0 ≤ n ∧ 0 ≤ sp ∧ 0 ≤ dp ∧ sp + n ≤ (m : Int) ∧ dp + n ≤ (m' : Int)) ∧ P := by
  unfold fp_cpy at h; split at h
  · rename_i m m' h1 h2
    obtain ⟨h3, h4⟩ := fp_cond_out h
    rw [Bool.and_eq_true] at h3
    exact ⟨m, m', h1, h2, Nat.le_of_ble_eq_true h3.1, Nat.le_of_ble_eq_true h3.2, h4.1, h4.2⟩
  · exact h.elim
theorem fp_as_lt {c n : Nat} {ch : Bool} {g : Nat} (hL : L ≤ 2560) (hv : fp_okV (.inr (g, c))) (ha : fp_as L c = some (ch, n)) : fp_rg (n : Int) := by
  rcases hv with h | ⟨-, h⟩
  · have hc := fp_mem.mp h
    have := fp_as_len ha (by omega)
    unfold fp_rg; omega
  · unfold fp_rg
    rcases h with rfl | rfl | rfl <;> cases ha <;> omega
theorem fp_if_out {b : Bool} {A P : Prop} (h : bif b then A ∧ P else P) : (b = true → A) ∧ P := by
  cases b
  · exact ⟨fun q => Bool.noConfusion q, h⟩
  · exact ⟨fun _ => h.1, h.2⟩
theorem fp_sws_out {x : Int} {k : Nat → Prop} : ∀ {ts : List Nat} {lo : Int}, fp_sws x lo k ts → ∀ j : Nat, j < ts.length → x = lo + j → k (ts.getD j 0)
  | [], _, _, j, hj, _ => by simp at hj
  | t :: ts, lo, h, 0, _, hx => h.1 (by omega)
  | t :: ts, lo, h, j + 1, hj, hx => by
    have := fp_sws_out h.2 j (by simp at hj; omega) (by omega)
    simpa using this
/-- the callee's words -/
theorem fp_good_wsV {own C : String} {idx : Nat} {y : MethodName} {cc : ByteArray} {n : Nat} {r : Option FieldType} (h1 : Cond.methodLink own idx y ∈ fp_tb) (h2 : Cond.instanceMethod y ∈ fp_tb) (h3 : Cond.selects C y y ∈ fp_tb) (h4 : Cond.initialized C ∈ fp_tb) (h5 : Cond.code y cc n r ∈ fp_tb) : GoodIn fp_tb (wsV own idx C y (fp_ws y cc n r)) := by
  intro w hw
  have hm : w ∈ fp_tb := by
    unfold wsV fp_ws at hw
    simp only [List.cons_append, List.nil_append, List.mem_cons] at hw
    rcases hw with rfl | rfl | rfl | rfl | rfl | hw <;> assumption
  exact ⟨hm, good_of_word (List.mem_filter.mp hm).2⟩
theorem fp_good_wsS {own : String} {idx : Nat} {y : MethodName} {cc : ByteArray} {n : Nat} {r : Option FieldType} (h1 : Cond.methodLink own idx y ∈ fp_tb) (h2 : Cond.static y ∈ fp_tb) (h4 : Cond.initialized own ∈ fp_tb) (h5 : Cond.code y cc n r ∈ fp_tb) : GoodIn fp_tb (wsS own idx y (fp_ws y cc n r)) := by
  intro w hw
  have hm : w ∈ fp_tb := by
    unfold wsS fp_ws at hw
    simp only [List.cons_append, List.nil_append, List.mem_cons] at hw
    rcases hw with rfl | rfl | rfl | rfl | hw <;> assumption
  exact ⟨hm, good_of_word (List.mem_filter.mp hm).2⟩
theorem fp_good_ws {y : MethodName} {cc : ByteArray} {n : Nat} {r : Option FieldType} (h5 : Cond.code y cc n r ∈ fp_tb) : GoodIn fp_tb (fp_ws y cc n r) := by
  intro w hw
  have hm : w ∈ fp_tb := by
    unfold fp_ws at hw
    simp only [List.mem_cons] at hw
    rcases hw with rfl | hw <;> assumption
  exact ⟨hm, good_of_word (List.mem_filter.mp hm).2⟩
section FPV
variable {p : Program} {e : Env} {R : Room} {s : State} {m : MethodId} {args : Array Value} {below : List Frame} {meth : Method} {c : Code} {Hp : Heap} {locs : List Loc} {cells slots : Nat} {Z : State → Prop}
variable {cc : ByteArray} {pc n idx : Nat} {mls : Array Slot} {own : String} {H : FpH} {K : FpQ} {st' : List FpV} {st0 : List Value} {av : Array Value} {r : Option FieldType}
/-- behind a call -/
theorem fp_back (hr0 : r = none ∨ r = some .int ∨ r = some .boolean) (hX : fp_X ad L H s) (hS : va_S (fp_A ad) s.heap Hp locs)
    (hr : va_Run p l e R s m args below meth c Hp locs cells slots 0 0 (F0 m pc mls st0) (st'.map (fp_tr ad)) (fp_Qm ad cI cC cO D L r K av) (fp_A ad))
    (kk : ∀ (v : Option FpV) (H' : FpH) (Hp' : Heap) (locs' : List Loc), K v H' → (∀ w, v = some w → fp_okV w) → fp_okH H' → fp_X ad L H' s → va_P D fp_cl (fp_W ad cI cC cO H') Hp' → va_S (fp_A ad) s.heap Hp' locs' → W p l e R s m args below meth c Hp' locs' cells slots Z (F0 m (pc + 3) mls ((fp_pu v st').map (fp_tr ad)))) :
    W p l e R s m args below meth c Hp locs cells slots Z (F0 m pc mls st0) := by
  have hb : ∀ {t : State} {H' : FpH} {H1 : Heap} {locs1 : List Loc}, t.heap = H1 → s.vm.Alike t.vm → fp_E ad cI cC cO D L H' t → va_S (fp_A ad) s.heap H1 locs1 → fp_X ad L H' s := fun ht hvm hE hS1 =>
    fp_X_back hX hE.2 hvm (fun q h1 h2 => by rw [ht]; exact hS1.2.1 q h1 h2)
  have hI : ∀ ty, va_Run p l e R s m args below meth c Hp locs cells slots 0 0 (F0 m pc mls st0) (st'.map (fp_tr ad)) (fp_Qm ad cI cC cO D L (some ty) K av) (fp_A ad) → W p l e R s m args below meth c Hp locs cells slots Z (F0 m pc mls st0) := fun ty hr =>
    va_calli (a := av) (post := fun (x : Int32) (H' : FpH) => fp_okH H' ∧ K (some (.inl x.toInt)) H') (B := fp_E ad cI cC cO D L) (A1 := fp_A ad) hr hS (fun _ _ h => h) (fun _ h => h) (fun x H' t H1 locs1 ht hvm hp hE _ _ hS1 => by
      have h := kk (some (.inl x.toInt)) H' H1 locs1 hp.2 (fun w hw => by cases hw; exact fp_rg_t x) hp.1 (hb ht hvm hE hS1) (by rw [← ht]; exact hE.1) hS1
      have e1 : (fp_pu (some (.inl x.toInt)) st').map (fp_tr ad) = .int x :: st'.map (fp_tr ad) := by
        show Value.int (fp_oi x.toInt) :: _ = _
        rw [fp_oi_t]
      rw [e1] at h
      exact h)
  rcases hr0 with rfl | rfl | rfl
  · exact va_callv (a := av) (post := fun H' : FpH => fp_okH H' ∧ K none H') (B := fp_E ad cI cC cO D L) (A1 := fp_A ad) hr hS (fun _ _ h => h) (fun _ h => h) (fun H' t H1 locs1 ht hvm hp hE _ _ hS1 =>
      kk none H' H1 locs1 hp.2 (fun w hw => by cases hw) hp.1 (hb ht hvm hE hS1) (by rw [← ht]; exact hE.1) hS1)
  · exact hI _ hr
  · exact hI _ hr
end FPV
end FPU
end
section
section FPW
variable {ad : Nat → Nat → Nat} {cI cC cO : ClassId} {l : Launch} {D : va_G} {L : Nat}
theorem fp_if01 {P Q : Prop} {b : Bool} (h : bif b then P ∧ Q else Q) : Q := by
  cases b
  · exact h
  · exact h.2
theorem fp_chkC_out {own : String} {idx a b w tg : Nat} {stat : Bool} (h : fp_chkC own idx a b w tg stat = true) : ∃ ci y cc n r, fp_M[a]? = some (ci, y, cc, n, r, stat) ∧ 1 ≤ a ∧ b ≤ n ∧ (if tg = 0 then Cond.methodLink own idx y ∈ fp_tb ∧ (stat = true → y.cls = own) else stat = true ∧ Cond.methodLinkNest own idx y RX6 ∈ fp_nw) ∧
    (parseMethodDescriptor y.desc).map (fun d => d.parameters.length) = some (bif stat then b else b - 1) ∧ (stat = false → 1 ≤ b) := by
  unfold fp_chkC at h
  split at h
  · rename_i ci y cc n r s hM
    simp only [Bool.and_eq_true, Bool.or_eq_true, decide_eq_true_eq] at h
    obtain ⟨⟨⟨⟨⟨h1, h2⟩, h3⟩, h4⟩, h5⟩, h6⟩ := h
    have h1 : s = stat := eq_of_beq h1
    subst h1
    refine ⟨ci, y, cc, n, r, hM, h2, h3, ?_, h5, ?_⟩
    · cases tg with
      | zero =>
        rw [if_pos rfl]
        have h4 : (decide (lw_tbl[w]? = some (Cond.methodLink own idx y)) && goodWord (.methodLink own idx y) && (!s || decide (y.cls = own))) = true := h4
        simp only [Bool.and_eq_true, Bool.or_eq_true, Bool.not_eq_true', decide_eq_true_eq] at h4
        refine ⟨fp_in h4.1.1 h4.1.2, fun q => ?_⟩
        rcases h4.2 with e | e
        · rw [q] at e; cases e
        · exact e
      | succ tg =>
        rw [if_neg (by omega)]
        have h4 : (s && decide (Cond.methodLinkNest own idx y RX6 ∈ fp_nw)) = true := h4
        simp only [Bool.and_eq_true, decide_eq_true_eq] at h4
        exact h4
    · intro q
      rcases h6 with e | e
      · rw [q] at e; cases e
      · exact e
  · cases h
section FPWS
variable {p : Program} {e : Env} {R : Room} {s : State} {m : MethodId} {args : Array Value} {below : List Frame} {meth : Method} {c : Code} {Hp : Heap} {locs : List Loc} {cells slots : Nat} {Z : State → Prop}
variable {cc : ByteArray} {pc n idx : Nat} {mls : Array Slot} {own : String} {H : FpH} {K : FpQ} {st' : List FpV}
theorem fp_pre {as : List FpV} (hN : ∀ w ∈ fp_nw, va_Nw w s) (hX : fp_X ad L H s) (hK : va_K D fp_cl (fp_tys cI cC cO) s) (hP : va_P D fp_cl (fp_W ad cI cC cO H) Hp) (hS : va_S (fp_A ad) s.heap Hp locs) : ∀ U : State, U.heap = Hp → s.WarmedH U.vm → va_Pc (as.map (fp_tr ad)) (fp_B ad cI cC cO D L H) (as.map (fp_tr ad)).toArray U := fun U hU hW =>
  ⟨rfl, by rw [hU]; exact hP, va_K.moved hW.alike hK, fp_X_of hX hW.alike hU hS ⟨rfl, rfl, rfl⟩, fp_nw_moved hN hW⟩
theorem fp_rm {d n : Nat} {R : Room} (hR : d + 1 + 1 ≤ R.frames ∧ 32 * (d + 1 + 1) ≤ R.locals) (hn : n ≤ 13) : ({ frames := d + 1, cells := 0, slots := 0, locals := 32 * (d + 1) } : Room).frames + 1 ≤ R.frames ∧ 8 + (n + 11) + ({ frames := d + 1, cells := 0, slots := 0, locals := 32 * (d + 1) } : Room).locals ≤ R.locals := by
  constructor
  · exact hR.1
  · show 8 + (n + 11) + 32 * (d + 1) ≤ R.locals
    omega
set_option maxHeartbeats 4000000 in
theorem fp_w_callV (hj : fp_inj ad) (hC : CallFix p m c cc n s args fp_tb own) (hml : mls.size = n) (hN : ∀ w ∈ fp_nw, va_Nw w s) {d d' : Nat} (hdd : d = d' + 1) (hR : d + 1 ≤ R.frames ∧ 32 * (d + 1) ≤ R.locals ∧ cells ≤ R.cells ∧ slots ≤ R.slots)
    (hX : fp_X ad L H s) (hK : va_K D fp_cl (fp_tys cI cC cO) s) (hP : va_P D fp_cl (fp_W ad cI cC cO H) Hp) (hS : va_S (fp_A ad) s.heap Hp locs) (hH : fp_okH H)
    {a b w tg : Nat} {st : List FpV} {as : List FpV} (hst : ∀ v ∈ st, fp_okV v) (hc : fp_chkC own idx a b w 0 false = true) (htg : (fp_M[a]?).map (fun q => q.1) = some tg) (hsp : st = as.reverse ++ st') (has : as.length = b) (hrc : fp_rc tg as = true) (hl8 : st'.length ≤ 8) (hd : decode cc pc = .ok (.invokevirtual idx, 3))
    (hXm : fp_Xm ad cI cC cO l D L d' a 0 (fp_en a as) [] H K)
    (kk : ∀ (v : Option FpV) (H' : FpH) (Hp' : Heap) (locs' : List Loc), K v H' → (∀ w, v = some w → fp_okV w) → fp_okH H' → fp_X ad L H' s → va_P D fp_cl (fp_W ad cI cC cO H') Hp' → va_S (fp_A ad) s.heap Hp' locs' → W p l e R s m args below meth c Hp' locs' cells slots Z (F0 m (pc + 3) mls ((fp_pu v st').map (fp_tr ad)))) :
    W p l e R s m args below meth c Hp locs cells slots Z (F0 m pc mls (st.map (fp_tr ad))) := by
  subst hdd
  obtain ⟨ci, y, cc', n', r, hM, ha, hbn, hlk, hpar, hb1⟩ := fp_chkC_out hc
  rw [if_pos rfl] at hlk
  obtain ⟨⟨f1, f2, f3, f4, f5, f6⟩, g1, g2, fr, g3⟩ := fp_mf hM ha
  rw [if_neg (by decide)] at g3
  rw [hM] at htg
  have htg : ci = tg := Option.some.inj htg
  subst htg
  have hoks : ∀ v ∈ as, fp_okV v := fun v hv => hst v (by rw [hsp]; exact List.mem_append_left _ (List.mem_reverse.mpr hv))
  match as, hrc, hoks, has, hsp, hXm with
  | .inr (g, c0) :: ar, hrc, hoks, has, hsp, hXm =>
    have hcls : fp_cls c0 = ci := Nat.eq_of_beq_eq_true hrc
    have hobj : ∃ fs, fp_os c0 = some (ci, fs) := by
      unfold fp_cls at hcls
      split at hcls
      · rename_i q fs ho
        exact ⟨fs, by rw [ho, hcls]⟩
      · omega
    obtain ⟨fs, ho⟩ := hobj
    have hm := fp_obj (hoks _ List.mem_cons_self) ho
    obtain ⟨k, -, hk⟩ := fp_at (ad := ad) (cI := cI) (cC := cC) (cO := cO) H hm
    have hk : (fp_W ad cI cC cO H)[k]? = some (ad g c0, .inr (ci, fp_fv ad H g c0 0 fs)) := by
      rw [hk]; unfold fp_ce; rw [ho]
    obtain ⟨⟨C, T, N⟩, hcl⟩ : ∃ q, fp_cl[ci]? = some q := ⟨_, List.getElem?_eq_getElem (show ci < fp_cl.length from f5)⟩
    have hCn : C = y.cls := by
      rw [f1]
      match ci, f5, hcl with
      | 0, _, h => cases h; rfl
      | 1, _, h => cases h; rfl
      | 2, _, h => cases h; rfl
      | 3, _, h => cases h; rfl
      | 4, _, h => cases h; rfl
      | 5, _, h => cases h; rfl
      | 6, _, h => cases h; rfl
      | 7, _, h => cases h; rfl
    have hMet := fp_met (l := l) (D := D) (L := L) hj hM ha hXm hH hoks (by rw [has]; exact hbn)
    have hlen : ar.length = b - 1 := by rw [List.length_cons] at has; omega
    have hstk : st.map (fp_tr ad) = (ar.map (fp_tr ad)).reverse ++ .ref (ad g c0) :: st'.map (fp_tr ad) := by
      rw [hsp, List.reverse_cons, List.append_assoc, List.map_append, List.map_reverse]
      rfl
    refine fp_back (K := K) fr hX hS (va_runV (As := ar.map (fp_tr ad)) (rest := st'.map (fp_tr ad)) (b := ad g c0) hC hMet
      (cwV (b - 1) hC.2.2.2.2 (fp_good_wsV hlk.1 g3.1 g3.2 g1 g2) rfl rfl rfl ⟨rfl, f3.1, f3.2, hpar⟩ (fp_rm ⟨hR.1, hR.2.1⟩ f4))
      ⟨fp_blind, by rw [← hCn]; exact va_recv hK hP hcl hk, fp_pre hN hX hK hP hS⟩ rfl (by rw [List.length_map]; exact hlen) hml hstk (lv_room (fp_cats st' hl8)) hd ⟨hR.2.2.1, hR.2.2.2⟩) kk
set_option maxHeartbeats 4000000 in
theorem fp_w_callS (hj : fp_inj ad) (hC : CallFix p m c cc n s args fp_tb own) (hml : mls.size = n) (hN : ∀ w ∈ fp_nw, va_Nw w s) {d d' : Nat} (hdd : d = d' + 1) (hR : d + 1 ≤ R.frames ∧ 32 * (d + 1) ≤ R.locals ∧ cells ≤ R.cells ∧ slots ≤ R.slots)
    (hX : fp_X ad L H s) (hK : va_K D fp_cl (fp_tys cI cC cO) s) (hP : va_P D fp_cl (fp_W ad cI cC cO H) Hp) (hS : va_S (fp_A ad) s.heap Hp locs) (hH : fp_okH H)
    {a b w tg : Nat} {st : List FpV} {as : List FpV} (hst : ∀ v ∈ st, fp_okV v) (hc : fp_chkC own idx a b w tg true = true) (hsp : st = as.reverse ++ st') (has : as.length = b) (hl8 : st'.length ≤ 8) (hd : decode cc pc = .ok (.invokestatic idx, 3))
    (hXm : fp_Xm ad cI cC cO l D L d' a 0 (fp_en a as) [] H K)
    (kk : ∀ (v : Option FpV) (H' : FpH) (Hp' : Heap) (locs' : List Loc), K v H' → (∀ w, v = some w → fp_okV w) → fp_okH H' → fp_X ad L H' s → va_P D fp_cl (fp_W ad cI cC cO H') Hp' → va_S (fp_A ad) s.heap Hp' locs' → W p l e R s m args below meth c Hp' locs' cells slots Z (F0 m (pc + 3) mls ((fp_pu v st').map (fp_tr ad)))) :
    W p l e R s m args below meth c Hp locs cells slots Z (F0 m pc mls (st.map (fp_tr ad))) := by
  subst hdd
  obtain ⟨ci, y, cc', n', r, hM, ha, hbn, hlk, hpar, -⟩ := fp_chkC_out hc
  obtain ⟨⟨f1, f2, f3, f4, f5, f6⟩, g1, g2, fr, g3⟩ := fp_mf hM ha
  rw [if_pos rfl] at g3
  have hoks : ∀ v ∈ as, fp_okV v := fun v hv => hst v (by rw [hsp]; exact List.mem_append_left _ (List.mem_reverse.mpr hv))
  have hMet := fp_met (l := l) (D := D) (L := L) hj hM ha hXm hH hoks (by rw [has]; exact hbn)
  have hstk : st.map (fp_tr ad) = (as.map (fp_tr ad)).reverse ++ st'.map (fp_tr ad) := by
    rw [hsp, List.map_append, List.map_reverse]
  by_cases ht : tg = 0
  · rw [if_pos ht] at hlk
    have hyo := hlk.2 rfl
    refine fp_back (K := K) fr hX hS (va_runS (As := as.map (fp_tr ad)) (rest := st'.map (fp_tr ad)) hC hMet
      (cwS b hC.2.2.2.2 (fp_good_wsS hlk.1 g3 (hyo ▸ g1) g2) rfl rfl rfl ⟨hyo, f3.1, f3.2, hpar⟩ (fp_rm ⟨hR.1, hR.2.1⟩ f4))
      ⟨fp_blind, fp_pre hN hX hK hP hS⟩ rfl (by rw [List.length_map]; exact has) hml hstk (lv_room (fp_cats st' hl8)) hd ⟨hR.2.2.1, hR.2.2.2⟩) kk
  · rw [if_neg ht] at hlk
    refine fp_back (K := K) fr hX hS (va_runSN (As := as.map (fp_tr ad)) (rest := st'.map (fp_tr ad)) hC hMet
      ⟨va_cnB b hC.2.2.2.2 (fp_good_ws g2) rfl rfl rfl (hN _ hlk.2) (hC.2.2.2.2 _ g1) ⟨f3.1, f3.2, hpar⟩ (fp_rm ⟨hR.1, hR.2.1⟩ f4), hC.2.2.2.2 _ g3, trivial⟩
      ⟨fp_blind, fp_pre hN hX hK hP hS⟩ rfl (by rw [List.length_map]; exact has) hml hstk (lv_room (fp_cats st' hl8)) hd ⟨hR.2.2.1, hR.2.2.2⟩) kk
end FPWS
end FPW
end
section
section FPJ
variable {ad : Nat → Nat → Nat} {cI cC cO : ClassId} {l : Launch} {D : va_G} {L : Nat}
theorem fp_cmp_eq {x y : Int} (hx : fp_rg x) (hy : fp_rg y) {A B : Prop} (h : fp_br (x = y) A B) : (fp_oi x = fp_oi y → A) ∧ (¬ fp_oi x = fp_oi y → B) := ⟨fun q => h.1 ((fp_oi_eq hx hy).mp q), fun q => h.2 (fun z => q ((fp_oi_eq hx hy).mpr z))⟩
theorem fp_cmp_lt {x y : Int} (hx : fp_rg x) (hy : fp_rg y) {A B : Prop} (h : fp_br (x < y) A B) : (fp_oi x < fp_oi y → A) ∧ (¬ fp_oi x < fp_oi y → B) := ⟨fun q => h.1 ((fp_oi_lt hx hy).mp q), fun q => h.2 (fun z => q ((fp_oi_lt hx hy).mpr z))⟩
theorem fp_cmp_e0 {x : Int} (hx : fp_rg x) {A B : Prop} (h : fp_br (x = 0) A B) : (fp_oi x = 0 → A) ∧ (¬ fp_oi x = 0 → B) := by
  have := fp_cmp_eq hx fp_rg_0 h
  rwa [fp_oi_0] at this
theorem fp_cmp_l0 {x : Int} (hx : fp_rg x) {A B : Prop} (h : fp_br (x < 0) A B) : (fp_oi x < 0 → A) ∧ (¬ fp_oi x < 0 → B) := by
  have := fp_cmp_lt hx fp_rg_0 h
  rwa [fp_oi_0] at this
theorem fp_cmp_g0 {x : Int} (hx : fp_rg x) {A B : Prop} (h : fp_br (0 < x) A B) : (0 < fp_oi x → A) ∧ (¬ 0 < fp_oi x → B) := by
  have := fp_cmp_lt fp_rg_0 hx h
  rwa [fp_oi_0] at this
theorem fp_i32_ge {x y : Int32} : x ≥ y ↔ ¬ x < y := Int32.not_lt.symm
theorem fp_i32_le {x y : Int32} : x ≤ y ↔ ¬ y < x := Int32.not_lt.symm
theorem fp_rg_01 {x y : Int} (hx : fp_rg x) (hy : fp_rg y) : fp_rg (if x < y then y else x) := by
  split
  · exact hy
  · exact hx
set_option maxHeartbeats 4000000 in
set_option maxRecDepth 100000 in
theorem fp_good (hj : fp_inj ad) (hL : L ≤ 2560) : fp_Good L (fp_Xm ad cI cC cO l D L) := by
  refine ⟨fun d u pc ls st H Q Q' hQ h p e R s m args below meth c Hp locs cells slots Z mls ci n y cc r b hM hC hN hR hX hK hP hS hH hst hls hlv ret => h p e R s m args below meth c Hp locs cells slots Z mls ci n y cc r b hM hC hN hR hX hK hP hS hH hst hls hlv (fun pc' mls' H' Hp' locs' v a1 a2 a3 a4 a5 a6 a7 => ret pc' mls' H' Hp' locs' v a1 a2 a3 a4 (hQ _ _ a5) a6 a7), ?_⟩
  intro d u pc ls st H Q en hen hs p e R s m args below meth c Hp locs cells slots Z mls ci n y cc r b hM hC hN hR hX hK hP hS hH hst hls hlv ret
  have hchk := fp_ok hen
  unfold fp_chk at hchk
  rw [hM] at hchk
  obtain ⟨i, nx, tg, a, bb, w⟩ := en
  simp only [Bool.and_eq_true, decide_eq_true_eq] at hchk
  obtain ⟨⟨hd, hlt⟩, hI⟩ := hchk
  obtain ⟨hx, hb, hml, hown, hts⟩ := id hC
  have hsz : mls.size = n := hlv.1
  have go : ∀ {pc' : Nat} {ls' : FpL} {st' : List FpV} {H' : FpH} {Hp' : Heap} {locs' : List Loc} {mls' : Array Slot}, fp_Xm ad cI cC cO l D L d u pc' ls' st' H' Q → fp_X ad L H' s → va_P D fp_cl (fp_W ad cI cC cO H') Hp' → va_S (fp_A ad) s.heap Hp' locs' → fp_okH H' → (∀ v ∈ st', fp_okV v) → (∀ v, some v ∈ ls' → fp_okV v) → lv_has mls' n (fp_lv ad 0 ls') → W p l e R s m args below meth c Hp' locs' cells slots Z (F0 m pc' mls' (st'.map (fp_tr ad))) :=
    fun h a1 a2 a3 a4 a5 a6 a7 => h p e R s m args below meth c _ _ cells slots Z _ ci n y cc r b hM hC hN hR a1 hK a2 a3 a4 a5 a6 a7 ret
  have upX : ∀ {g c0 i : Nat} {z : Int}, c0 ≤ 25 → fp_X ad L (fp_up H g c0 i z) s := fun {g c0 i z} hc => by
    refine fp_X_to hX (Vm.Alike.refl _) (Nat.le_refl _) (fun _ _ _ => rfl) ⟨?_, ?_, ?_⟩ <;> (funext j; unfold fp_up; rw [if_neg (by omega)])
  have cpX : ∀ {g c0 g' c1 a b k : Nat}, c1 ≤ 25 → fp_X ad L (fp_cp H g c0 g' c1 a b k) s := fun {g c0 g' c1 a b k} hc => by
    refine fp_X_to hX (Vm.Alike.refl _) (Nat.le_refl _) (fun _ _ _ => rfl) ⟨?_, ?_, ?_⟩ <;> (funext j; unfold fp_cp; rw [if_neg (by omega)])
  have storeL : ∀ {k : Nat} {v : FpV} {ls' : FpL}, fp_okV v → (∀ w, some w ∈ ls' → w = v ∨ some w ∈ ls) → ∀ w, some w ∈ ls' → fp_okV w := fun hv h w hw => by
    rcases h w hw with e | e
    · rw [e]; exact hv
    · exact hls w e
  unfold fp_step at hs
  cases i with
  | aload_n k =>
    obtain rfl : nx = pc + 1 := of_decide_eq_true hI
    obtain ⟨v, hv, hvm, hvl⟩ := fp_lg_out (ad := ad) 0 hs
    rcases v with z | ⟨g, c0⟩
    · exact hv.elim
    · rw [Nat.zero_add] at hvl
      exact lv_aload_n hx hb (fp_dec hd) rfl (hlv.2.2 _ hvl) (go hv hX hP hS hH (fp_okc (hls _ hvm) hst) hls hlv)
  | aload k =>
    obtain rfl : nx = pc + 2 := of_decide_eq_true hI
    obtain ⟨v, hv, hvm, hvl⟩ := fp_lg_out (ad := ad) 0 hs
    rcases v with z | ⟨g, c0⟩
    · exact hv.elim
    · rw [Nat.zero_add] at hvl
      exact lv_aload hx hb (fp_dec hd) (hlv.2.2 _ hvl) (go hv hX hP hS hH (fp_okc (hls _ hvm) hst) hls hlv)
  | iload_n k =>
    obtain rfl : nx = pc + 1 := of_decide_eq_true hI
    obtain ⟨v, hv, hvm, hvl⟩ := fp_lg_out (ad := ad) 0 hs
    rcases v with z | ⟨g, c0⟩
    · rw [Nat.zero_add] at hvl
      exact lv_iload_n hx hb (fp_dec hd) rfl (hlv.2.2 _ hvl) (go hv hX hP hS hH (fp_okc (hls _ hvm) hst) hls hlv)
    · exact hv.elim
  | iload k =>
    obtain rfl : nx = pc + 2 := of_decide_eq_true hI
    obtain ⟨v, hv, hvm, hvl⟩ := fp_lg_out (ad := ad) 0 hs
    rcases v with z | ⟨g, c0⟩
    · rw [Nat.zero_add] at hvl
      exact lv_iload hx hb (fp_dec hd) (hlv.2.2 _ hvl) (go hv hX hP hS hH (fp_okc (hls _ hvm) hst) hls hlv)
    · exact hv.elim
  | iconst z =>
    have hI : (decide (nx = pc + 1) && decide (-1 ≤ z) && decide (z ≤ 5)) = true := hI
    simp only [Bool.and_eq_true, decide_eq_true_eq] at hI
    obtain ⟨⟨rfl, h1⟩, h2⟩ := hI
    exact lv_iconst hx hb (fp_dec hd) (v := fp_oi z) rfl (go hs hX hP hS hH (fp_okc (v := .inl z) (show fp_rg z by unfold fp_rg; omega) hst) hls hlv)
  | bipush z =>
    have hI : (decide (nx = pc + 2) && decide (-128 ≤ z) && decide (z ≤ 127)) = true := hI
    simp only [Bool.and_eq_true, decide_eq_true_eq] at hI
    obtain ⟨⟨rfl, h1⟩, h2⟩ := hI
    exact lv_bipush hx hb (fp_dec hd) (v := fp_oi z) (fp_oi_b h1 h2) (go hs hX hP hS hH (fp_okc (v := .inl z) (show fp_rg z by unfold fp_rg; omega) hst) hls hlv)
  | sipush z =>
    have hI : (decide (nx = pc + 3) && decide (-32768 ≤ z) && decide (z ≤ 32767)) = true := hI
    simp only [Bool.and_eq_true, decide_eq_true_eq] at hI
    obtain ⟨⟨rfl, h1⟩, h2⟩ := hI
    exact lv_sipush hx hb (fp_dec hd) (v := fp_oi z) (fp_oi_s h1 h2) (go hs hX hP hS hH (fp_okc (v := .inl z) (show fp_rg z by unfold fp_rg; omega) hst) hls hlv)
  | istore_n k =>
    have hI : (decide (nx = pc + 1) && decide (k.val < n)) = true := hI
    simp only [Bool.and_eq_true, decide_eq_true_eq] at hI
    obtain ⟨rfl, hk⟩ := hI
    have hs0 := fp_s1_out hs
    clear hs
    obtain ⟨x, st', rfl, hs⟩ := hs0
    obtain ⟨hv, hst⟩ := fp_okt hst
    obtain ⟨ls', hs, h1, h2⟩ := fp_ls_out (ad := ad) 0 hs
    exact lv_istore_n hx hb (fp_dec hd) rfl hlv hk rfl (fun mls' hm => go hs hX hP hS hH hst (storeL (k := 0) hv h1) (fp_lv_st h2 hm))
  | istore k =>
    have hI : (decide (nx = pc + 2) && decide (k < n)) = true := hI
    simp only [Bool.and_eq_true, decide_eq_true_eq] at hI
    obtain ⟨rfl, hk⟩ := hI
    have hs0 := fp_s1_out hs
    clear hs
    obtain ⟨x, st', rfl, hs⟩ := hs0
    obtain ⟨hv, hst⟩ := fp_okt hst
    obtain ⟨ls', hs, h1, h2⟩ := fp_ls_out (ad := ad) 0 hs
    exact lv_istore hx hb (fp_dec hd) hlv hk rfl (fun mls' hm => go hs hX hP hS hH hst (storeL (k := 0) hv h1) (fp_lv_st h2 hm))
  | astore_n k =>
    have hI : (decide (nx = pc + 1) && decide (k.val < n)) = true := hI
    simp only [Bool.and_eq_true, decide_eq_true_eq] at hI
    obtain ⟨rfl, hk⟩ := hI
    have hs0 := fp_sr_out hs
    clear hs
    obtain ⟨g, c0, st', rfl, hs⟩ := hs0
    obtain ⟨hv, hst⟩ := fp_okt hst
    obtain ⟨ls', hs, h1, h2⟩ := fp_ls_out (ad := ad) 0 hs
    exact lv_astore_n hx hb (fp_dec hd) rfl hlv hk rfl (fun mls' hm => go hs hX hP hS hH hst (storeL (k := 0) hv h1) (fp_lv_st h2 hm))
  | astore k =>
    have hI : (decide (nx = pc + 2) && decide (k < n)) = true := hI
    simp only [Bool.and_eq_true, decide_eq_true_eq] at hI
    obtain ⟨rfl, hk⟩ := hI
    have hs0 := fp_sr_out hs
    clear hs
    obtain ⟨g, c0, st', rfl, hs⟩ := hs0
    obtain ⟨hv, hst⟩ := fp_okt hst
    obtain ⟨ls', hs, h1, h2⟩ := fp_ls_out (ad := ad) 0 hs
    exact lv_astore hx hb (fp_dec hd) hlv hk rfl (fun mls' hm => go hs hX hP hS hH hst (storeL (k := 0) hv h1) (fp_lv_st h2 hm))
  | iinc k z =>
    have hI : (decide (nx = pc + 3) && decide (k < n)) = true := hI
    simp only [Bool.and_eq_true, decide_eq_true_eq] at hI
    obtain ⟨rfl, hk⟩ := hI
    obtain ⟨v, hv, hvm, hvl⟩ := fp_lg_out (ad := ad) 0 hs
    rcases v with x | ⟨g, c0⟩
    · rw [Nat.zero_add] at hvl
      obtain ⟨hrg, hs⟩ := hv
      obtain ⟨ls', hs, h1, h2⟩ := fp_ls_out (ad := ad) 0 hs
      obtain ⟨q, hq⟩ := List.getElem?_of_mem hvl
      exact lv_iinc hx hb (fp_dec hd) hlv hq (v := fp_oi (x + z)) (fp_oi_add x z) hk rfl (fun mls' hm => go hs hX hP hS hH hst (storeL (k := 0) (v := .inl (x + z)) hrg h1) (fp_lv_st h2 hm))
    · exact hv.elim
  | iadd =>
    obtain rfl : nx = pc + 1 := of_decide_eq_true hI
    have hs0 := fp_s2_out hs
    clear hs
    obtain ⟨x, y0, st', rfl, hrg, hs⟩ := hs0
    obtain ⟨-, hst⟩ := fp_okt hst
    obtain ⟨-, hst⟩ := fp_okt hst
    refine lv_iadd hx hb (fp_dec hd) ?_
    rw [fp_oi_add]
    exact go hs hX hP hS hH (fp_okc (v := .inl (x + y0)) hrg hst) hls hlv
  | isub =>
    obtain rfl : nx = pc + 1 := of_decide_eq_true hI
    have hs0 := fp_s2_out hs
    clear hs
    obtain ⟨x, y0, st', rfl, hrg, hs⟩ := hs0
    obtain ⟨-, hst⟩ := fp_okt hst
    obtain ⟨-, hst⟩ := fp_okt hst
    refine lv_isub hx hb (fp_dec hd) ?_
    rw [fp_oi_sub]
    exact go hs hX hP hS hH (fp_okc (v := .inl (x - y0)) hrg hst) hls hlv
  | imul =>
    obtain rfl : nx = pc + 1 := of_decide_eq_true hI
    have hs0 := fp_s2_out hs
    clear hs
    obtain ⟨x, y0, st', rfl, hrg, hs⟩ := hs0
    obtain ⟨-, hst⟩ := fp_okt hst
    obtain ⟨-, hst⟩ := fp_okt hst
    refine lv_imul hx hb (fp_dec hd) ?_
    rw [fp_oi_mul]
    exact go hs hX hP hS hH (fp_okc (v := .inl (x * y0)) hrg hst) hls hlv
  | idiv =>
    obtain rfl : nx = pc + 1 := of_decide_eq_true hI
    have hs0 := fp_s2_out hs
    clear hs
    obtain ⟨x, y0, st', rfl, ⟨h0, h1⟩, hs⟩ := hs0
    obtain ⟨hy0, hst⟩ := fp_okt hst
    obtain ⟨hx0, hst⟩ := fp_okt hst
    refine lv_idiv hx hb (fp_dec hd) (fun q => ?_) ?_
    · rw [← fp_oi_0, fp_oi_eq hy0 fp_rg_0] at q; omega
    · rw [fp_oi_div hx0 hy0 h0 h1]
      have h2 := Int.ediv_le_self y0 h0
      have h3 := Int.ediv_nonneg h0 (Int.le_of_lt h1)
      have h4 : fp_rg x := hx0
      exact go hs hX hP hS hH (fp_okc (v := .inl (x / y0)) (show fp_rg _ by unfold fp_rg at h4 ⊢; omega) hst) hls hlv
  | irem =>
    obtain rfl : nx = pc + 1 := of_decide_eq_true hI
    have hs0 := fp_s2_out hs
    clear hs
    obtain ⟨x, y0, st', rfl, ⟨h0, h1⟩, hs⟩ := hs0
    obtain ⟨hy0, hst⟩ := fp_okt hst
    obtain ⟨hx0, hst⟩ := fp_okt hst
    refine lv_irem hx hb (fp_dec hd) (fun q => ?_) ?_
    · rw [← fp_oi_0, fp_oi_eq hy0 fp_rg_0] at q; omega
    · rw [fp_oi_rem hx0 hy0 h0 h1]
      have h2 := Int.emod_lt_of_pos x h1
      have h3 := Int.emod_nonneg x (by omega : y0 ≠ 0)
      have h4 : fp_rg y0 := hy0
      exact go hs hX hP hS hH (fp_okc (v := .inl (x % y0)) (show fp_rg _ by unfold fp_rg at h4 ⊢; omega) hst) hls hlv
  | ishl =>
    obtain rfl : nx = pc + 1 := of_decide_eq_true hI
    have hs0 := fp_s2_out hs
    clear hs
    obtain ⟨x, y0, st', rfl, ⟨rfl, h0, h1⟩, hs⟩ := hs0
    obtain ⟨-, hst⟩ := fp_okt hst
    obtain ⟨-, hst⟩ := fp_okt hst
    refine lv_ishl hx hb (fp_dec hd) ?_
    rw [fp_oi_shl h0 h1]
    exact go hs hX hP hS hH (fp_okc (v := .inl ((2 : Int) ^ y0.toNat)) (fp_rg_shl h0 h1) hst) hls hlv
  | iand =>
    obtain rfl : nx = pc + 1 := of_decide_eq_true hI
    have hs0 := fp_s2_out hs
    clear hs
    obtain ⟨x, y0, st', rfl, rfl, hs⟩ := hs0
    obtain ⟨-, hst⟩ := fp_okt hst
    obtain ⟨hx0, hst⟩ := fp_okt hst
    refine lv_iand hx hb (fp_dec hd) ?_
    rw [fp_oi_and hx0]
    exact go hs hX hP hS hH (fp_okc (v := .inl (x % 32)) (show fp_rg _ by unfold fp_rg; omega) hst) hls hlv
  | i2c =>
    obtain rfl : nx = pc + 1 := of_decide_eq_true hI
    have hs0 := fp_s1_out hs
    clear hs
    obtain ⟨x, st', rfl, hs⟩ := hs0
    obtain ⟨hx0, hst⟩ := fp_okt hst
    exact lv_i2c hx hb (fp_dec hd) (v := fp_oi (x % 65536)) (fp_oi_i2c hx0) (go hs hX hP hS hH (fp_okc (v := .inl (x % 65536)) (show fp_rg _ by unfold fp_rg; omega) hst) hls hlv)
  | dup =>
    obtain rfl : nx = pc + 1 := of_decide_eq_true hI
    dsimp only at hs
    split at hs
    · obtain ⟨hv, hst'⟩ := fp_okt hst
      exact lv_dup hx hb (fp_dec hd) (fp_tr_cat _) (go hs hX hP hS hH (fp_okc hv hst) hls hlv)
    · exact hs.elim
  | dup2 =>
    obtain rfl : nx = pc + 1 := of_decide_eq_true hI
    dsimp only at hs
    split at hs
    · obtain ⟨hv, hst'⟩ := fp_okt hst
      obtain ⟨hv2, hst'⟩ := fp_okt hst'
      exact lv_dup2_11 hx hb (fp_dec hd) (fp_tr_cat _) (fp_tr_cat _) (go hs hX hP hS hH (fp_okc hv (fp_okc hv2 hst)) hls hlv)
    · exact hs.elim
  | pop =>
    obtain rfl : nx = pc + 1 := of_decide_eq_true hI
    dsimp only at hs
    split at hs
    · obtain ⟨hv, hst'⟩ := fp_okt hst
      exact lv_pop hx hb (fp_dec hd) (fp_tr_cat _) (go hs hX hP hS hH hst' hls hlv)
    · exact hs.elim
  | goto off =>
    have hI : (decide (nx = pc + 3) && decide ((pc : Int) + off = (tg : Int))) = true := hI
    simp only [Bool.and_eq_true, decide_eq_true_eq] at hI
    obtain ⟨rfl, ht⟩ := hI
    exact lv_goto hx hb (fp_dec hd) ht (go hs hX hP hS hH hst hls hlv)
  | ifCond cnd off =>
    have hI : (decide (nx = pc + 3) && decide ((pc : Int) + off = (tg : Int))) = true := hI
    simp only [Bool.and_eq_true, decide_eq_true_eq] at hI
    obtain ⟨rfl, ht⟩ := hI
    have hs0 := fp_s1_out hs
    clear hs
    obtain ⟨x, st', rfl, hs⟩ := hs0
    obtain ⟨hx0, hst⟩ := fp_okt hst
    have fin : ∀ {q}, fp_Xm ad cI cC cO l D L d u q ls st' H Q → W p l e R s m args below meth c Hp locs cells slots Z (F0 m q mls (st'.map (fp_tr ad))) := fun h => go h hX hP hS hH hst hls hlv
    cases cnd with
    | eq => obtain ⟨h1, h2⟩ := fp_cmp_e0 hx0 hs; exact lv_if_eq hx hb (fp_dec hd) ht (fun q => fin (h1 q)) (fun q => fin (h2 q))
    | ne => obtain ⟨h1, h2⟩ := fp_cmp_e0 hx0 hs; exact lv_if_ne hx hb (fp_dec hd) ht (fun q => fin (h2 q)) (fun q => fin (h1 q))
    | lt => obtain ⟨h1, h2⟩ := fp_cmp_l0 hx0 hs; exact lv_if_lt hx hb (fp_dec hd) ht (fun q => fin (h1 q)) (fun q => fin (h2 q))
    | ge => obtain ⟨h1, h2⟩ := fp_cmp_l0 hx0 hs; exact lv_if_ge hx hb (fp_dec hd) ht (fun q => fin (h2 (Int32.not_lt.mpr q))) (fun q => fin (h1 (Int32.not_le.mp q)))
    | gt => obtain ⟨h1, h2⟩ := fp_cmp_g0 hx0 hs; exact lv_if_gt hx hb (fp_dec hd) ht (fun q => fin (h1 q)) (fun q => fin (h2 q))
    | le => obtain ⟨h1, h2⟩ := fp_cmp_g0 hx0 hs; exact lv_if_le hx hb (fp_dec hd) ht (fun q => fin (h2 (Int32.not_lt.mpr q))) (fun q => fin (h1 (Int32.not_le.mp q)))
  | if_icmp cnd off =>
    have hI : (decide (nx = pc + 3) && decide ((pc : Int) + off = (tg : Int))) = true := hI
    simp only [Bool.and_eq_true, decide_eq_true_eq] at hI
    obtain ⟨rfl, ht⟩ := hI
    have hs0 := fp_s2_out hs
    clear hs
    obtain ⟨x, y0, st', rfl, hs⟩ := hs0
    obtain ⟨hy0, hst⟩ := fp_okt hst
    obtain ⟨hx0, hst⟩ := fp_okt hst
    have fin : ∀ {q}, fp_Xm ad cI cC cO l D L d u q ls st' H Q → W p l e R s m args below meth c Hp locs cells slots Z (F0 m q mls (st'.map (fp_tr ad))) := fun h => go h hX hP hS hH hst hls hlv
    cases cnd with
    | eq => obtain ⟨h1, h2⟩ := fp_cmp_eq hx0 hy0 hs; exact lv_icmp_eq hx hb (fp_dec hd) ht (fun q => fin (h1 q)) (fun q => fin (h2 q))
    | ne => obtain ⟨h1, h2⟩ := fp_cmp_eq hx0 hy0 hs; exact lv_icmp_ne hx hb (fp_dec hd) ht (fun q => fin (h2 q)) (fun q => fin (h1 q))
    | lt => obtain ⟨h1, h2⟩ := fp_cmp_lt hx0 hy0 hs; exact lv_icmp_lt hx hb (fp_dec hd) ht (fun q => fin (h1 q)) (fun q => fin (h2 q))
    | ge => obtain ⟨h1, h2⟩ := fp_cmp_lt hx0 hy0 hs; exact lv_icmp_ge hx hb (fp_dec hd) ht (fun q => fin (h2 (Int32.not_lt.mpr q))) (fun q => fin (h1 (Int32.not_le.mp q)))
    | gt => obtain ⟨h1, h2⟩ := fp_cmp_lt hy0 hx0 hs; exact lv_icmp_gt hx hb (fp_dec hd) ht (fun q => fin (h1 q)) (fun q => fin (h2 q))
    | le => obtain ⟨h1, h2⟩ := fp_cmp_lt hy0 hx0 hs; exact lv_icmp_le hx hb (fp_dec hd) ht (fun q => fin (h2 (Int32.not_lt.mpr q))) (fun q => fin (h1 (Int32.not_le.mp q)))
  | getfield idx =>
    have hI : (decide (nx = pc + 3) && fp_chkF (fp_rx ci) idx a bb w) = true := hI
    simp only [Bool.and_eq_true, decide_eq_true_eq] at hI
    obtain ⟨rfl, hF⟩ := hI
    have hs0 := fp_sr_out hs
    clear hs
    obtain ⟨g, c0, st', rfl, hs⟩ := hs0
    obtain ⟨hv, hst⟩ := fp_okt hst
    exact fp_w_get (st := st') hC hK hP hv hH hF hs (fp_dec hd) (fun v h1 h2 => go h1 hX hP hS hH (fp_okc h2 hst) hls hlv)
  | putfield idx =>
    have hI : (decide (nx = pc + 3) && fp_chkF (fp_rx ci) idx a bb w && fp_chkP a bb) = true := hI
    simp only [Bool.and_eq_true, decide_eq_true_eq] at hI
    obtain ⟨⟨rfl, hF⟩, hG⟩ := hI
    dsimp only at hs
    split at hs
    · rename_i z g c0 st'
      obtain ⟨hz, hst⟩ := fp_okt hst
      obtain ⟨hv, hst⟩ := fp_okt hst
      have hs0 := fp_cond_out hs
      clear hs
      obtain ⟨hw, hs⟩ := hs0
      have hs0 := fp_if_out hs
      clear hs
      obtain ⟨h01, hs⟩ := hs0
      have hc25 : c0 ≤ 25 := by
        rcases hv with h | ⟨-, h⟩
        · have := fp_mem.mp h; omega
        · rcases h with rfl | rfl | rfl <;> cases hw
      exact fp_w_put hj hC hK hP hS hv hF hG hw h01 (fp_dec hd) (fun Hp1 locs1 hP1 hS1 => go hs (upX hc25) hP1 hS1 (fp_okH_up hH hz) hst hls hlv)
    · exact hs.elim
  | iaload =>
    obtain rfl : nx = pc + 1 := of_decide_eq_true hI
    have hs0 := fp_si_out hs
    clear hs
    obtain ⟨i0, g, c0, st', rfl, hs⟩ := hs0
    obtain ⟨hi0, hst⟩ := fp_okt hst
    obtain ⟨hv, hst⟩ := fp_okt hst
    have hs0 := fp_ld_out hs
    clear hs
    obtain ⟨k, ha, h0, h1, hs⟩ := hs0
    exact fp_w_ld hx hb hK hP hS hX hi0 hv ha h0 h1 (fp_dec hd) (go hs hX hP hS hH (fp_okc (v := .inl (H g c0 i0.toNat)) (hH _ _ _) hst) hls hlv)
  | caload =>
    obtain rfl : nx = pc + 1 := of_decide_eq_true hI
    have hs0 := fp_si_out hs
    clear hs
    obtain ⟨i0, g, c0, st', rfl, hs⟩ := hs0
    obtain ⟨hi0, hst⟩ := fp_okt hst
    obtain ⟨hv, hst⟩ := fp_okt hst
    have hs0 := fp_ld_out hs
    clear hs
    obtain ⟨k, ha, h0, h1, hs⟩ := hs0
    exact fp_w_cld hx hb hK hP hX hi0 hv ha h0 h1 (fp_dec hd) (go hs hX hP hS hH (fp_okc (v := .inl (H g c0 i0.toNat)) (hH _ _ _) hst) hls hlv)
  | iastore =>
    obtain rfl : nx = pc + 1 := of_decide_eq_true hI
    have hs0 := fp_sii_out hs
    clear hs
    obtain ⟨z, i0, g, c0, st', rfl, hs⟩ := hs0
    obtain ⟨hz, hst⟩ := fp_okt hst
    obtain ⟨hi0, hst⟩ := fp_okt hst
    obtain ⟨hv, hst⟩ := fp_okt hst
    have hs0 := fp_st_out hs
    clear hs
    obtain ⟨k, ha, hc25, h0, h1, hs⟩ := hs0
    exact fp_w_st hj hx hb hK hP hS hi0 hv hc25 ha h0 h1 (fp_dec hd) (fun Hp1 locs1 hP1 hS1 => go hs (upX hc25) hP1 hS1 (fp_okH_up hH hz) hst hls hlv)
  | castore =>
    obtain rfl : nx = pc + 1 := of_decide_eq_true hI
    have hs0 := fp_sii_out hs
    clear hs
    obtain ⟨z, i0, g, c0, st', rfl, hz2, hs⟩ := hs0
    obtain ⟨hz, hst⟩ := fp_okt hst
    obtain ⟨hi0, hst⟩ := fp_okt hst
    obtain ⟨hv, hst⟩ := fp_okt hst
    have hs0 := fp_st_out hs
    clear hs
    obtain ⟨k, ha, hc25, h0, h1, hs⟩ := hs0
    exact fp_w_cst hj hx hb hK hP hS hi0 hz2 hv hc25 ha h0 h1 (fp_dec hd) (fun Hp1 locs1 hP1 hS1 => go hs (upX hc25) hP1 hS1 (fp_okH_up hH hz) hst hls hlv)
  | aaload =>
    obtain rfl : nx = pc + 1 := of_decide_eq_true hI
    have hs0 := fp_si_out hs
    clear hs
    obtain ⟨i0, g, c0, st', rfl, hs⟩ := hs0
    obtain ⟨hi0, hst1⟩ := fp_okt hst
    obtain ⟨hv, hst2⟩ := fp_okt hst1
    clear hst hst1
    have hs0 := fp_cond_out hs
    clear hs
    obtain ⟨hc, ⟨h0, h1⟩, hs⟩ := hs0
    obtain rfl : c0 = 16 := Nat.eq_of_beq_eq_true hc
    exact fp_w_ald hx hb hK hP hi0 hv h0 h1 (fp_dec hd) (go hs hX hP hS hH (fp_okc (v := .inr (3 + i0.toNat, 0)) (Or.inl (fp_mem.mpr (by omega))) hst2) hls hlv)
  | arraylength =>
    obtain rfl : nx = pc + 1 := of_decide_eq_true hI
    have hs0 := fp_sr_out hs
    clear hs
    obtain ⟨g, c0, st', rfl, hs⟩ := hs0
    obtain ⟨hv, hst⟩ := fp_okt hst
    have hs0 := fp_len_out hs
    clear hs
    obtain ⟨ch, k, ha, hs⟩ := hs0
    exact fp_w_len hx hb hK hP hS hX hv ha (fp_dec hd) (go hs hX hP hS hH (fp_okc (v := .inl (k : Int)) (fp_as_lt hL hv ha) hst) hls hlv)
  | getstatic idx =>
    have hI : (decide (nx = pc + 3) && ((decide (a = 27) && decide (lw_tbl[w]? = some (.fieldLink (fp_rx ci) idx RX6 "LEAST_SETTING" "[I")) && goodWord (.fieldLink (fp_rx ci) idx RX6 "LEAST_SETTING" "[I")) || (decide (a = 28) && decide (lw_tbl[w]? = some (.fieldLink (fp_rx ci) idx RX6 "MOST_SETTING" "[I")) && goodWord (.fieldLink (fp_rx ci) idx RX6 "MOST_SETTING" "[I")))) = true := hI
    simp only [Bool.and_eq_true, Bool.or_eq_true, decide_eq_true_eq] at hI
    obtain ⟨rfl, ⟨⟨rfl, h1⟩, h2⟩ | ⟨⟨rfl, h1⟩, h2⟩⟩ := hI
    · exact va_gets hx hb hX.2.1 hS hown (hts _ (fp_in h1 h2)) (fun _ h => h) (fp_dec hd) (go hs hX hP hS hH (fp_okc (v := .inr (9, 27)) (Or.inr ⟨rfl, Or.inr (Or.inl rfl)⟩) hst) hls hlv)
    · exact va_gets hx hb hX.2.2 hS hown (hts _ (fp_in h1 h2)) (fun _ h => h) (fp_dec hd) (go hs hX hP hS hH (fp_okc (v := .inr (9, 28)) (Or.inr ⟨rfl, Or.inr (Or.inr rfl)⟩) hst) hls hlv)
  | invokevirtual idx =>
    have hI : (decide (nx = pc + 3) && fp_chkC (fp_rx ci) idx a bb w 0 false && decide ((fp_M[a]?).map (fun q => q.1) = some tg)) = true := hI
    simp only [Bool.and_eq_true, decide_eq_true_eq] at hI
    obtain ⟨⟨rfl, hcc⟩, htg⟩ := hI
    have hs0 := fp_ta_out hs
    clear hs
    obtain ⟨as, st', rfl, has, hs⟩ := hs0
    rw [List.append_nil] at hs
    have hs0 := fp_cond_out hs
    clear hs
    obtain ⟨hq, d', hdd, hs⟩ := hs0
    rw [Bool.and_eq_true] at hq
    have hst' : ∀ v ∈ st', fp_okV v := fun v hv => hst v (List.mem_append_right _ hv)
    exact fp_w_callV hj hC hsz hN hdd hR hX hK hP hS hH hst hcc htg (by rw [List.reverse_reverse]) (by rw [List.length_reverse]; exact has) hq.1 (Nat.le_of_ble_eq_true hq.2) (fp_dec hd) hs
      (fun v H' Hp' locs' h1 h2 h3 h4 h5 h6 => go h1 h4 h5 h6 h3 (by cases v with
        | none => exact hst'
        | some w => exact fp_okc (h2 w rfl) hst') hls hlv)
  | invokestatic idx =>
    have hI2 : (decide (nx = pc + 3) && (bif Nat.beq a 900 then decide (lw_tbl[w]? = some (.methodLink (fp_rx ci) idx arraycopyName)) && goodWord (.methodLink (fp_rx ci) idx arraycopyName)
        else bif Nat.beq a 901 then decide (lw_tbl[w]? = some (.methodLink (fp_rx ci) idx Lib.Math.max.name)) && goodWord (.methodLink (fp_rx ci) idx Lib.Math.max.name) else fp_chkC (fp_rx ci) idx a bb w tg true)) = true := hI
    rw [Bool.and_eq_true, decide_eq_true_eq] at hI2
    clear hI
    obtain ⟨rfl, hI⟩ := hI2
    dsimp only at hs
    have hR1 : 1 ≤ R.frames ∧ 32 ≤ R.locals := ⟨by omega, by omega⟩
    cases h900 : Nat.beq a 900 with
    | true =>
      rw [h900] at hI hs
      simp only [cond_true, Bool.and_eq_true, decide_eq_true_eq] at hI
      simp only [cond_true] at hs
      have hs0 := fp_sc_out hs
      clear hs
      obtain ⟨k, dp, g', c1, sp, g, c0, st', rfl, hs⟩ := hs0
      obtain ⟨hk, hst⟩ := fp_okt hst
      obtain ⟨hdp, hst⟩ := fp_okt hst
      obtain ⟨hv', hst⟩ := fp_okt hst
      obtain ⟨hsp, hst⟩ := fp_okt hst
      obtain ⟨hv, hst⟩ := fp_okt hst
      have hs0 := fp_cpy_out hs
      clear hs
      obtain ⟨n0, n1, ha, ha', hc1, hc0, ⟨h1, h2, h3, h4, h5⟩, hs⟩ := hs0
      have hs0 := fp_cond_out hs
      clear hs
      obtain ⟨h8, hs⟩ := hs0
      exact fp_w_copy hj hC hsz hK hP hS hR1 hk hdp hsp hv hv' hc0 hc1 ha ha' h1 h2 h3 h4 h5 (fp_in hI.1 hI.2) (fp_cats st' (Nat.le_of_ble_eq_true h8)) (fp_dec hd) (fun Hp1 locs1 hP1 hS1 => go hs (cpX hc1) hP1 hS1 (fp_okH_cp hH) hst hls hlv)
    | false =>
      rw [h900] at hI hs
      simp only [cond_false] at hI hs
      cases h901 : Nat.beq a 901 with
      | true =>
        rw [h901] at hI hs
        simp only [cond_true, Bool.and_eq_true, decide_eq_true_eq] at hI
        simp only [cond_true] at hs
        have hs0 := fp_s2_out hs
        clear hs
        obtain ⟨x, y0, st', rfl, hs⟩ := hs0
        obtain ⟨hy0, hst⟩ := fp_okt hst
        obtain ⟨hx0, hst⟩ := fp_okt hst
        have hs0 := fp_cond_out hs
        clear hs
        obtain ⟨h8, hs⟩ := hs0
        exact fp_w_max hC hsz hR1 ⟨hR.2.2.1, hR.2.2.2⟩ hx0 hy0 (fp_in hI.1 hI.2) (fp_cats st' (Nat.le_of_ble_eq_true h8)) (fp_dec hd) (go hs hX hP hS hH (fp_okc (v := .inl (if x < y0 then y0 else x)) (fp_rg_01 hx0 hy0) hst) hls hlv)
      | false =>
        rw [h901] at hI hs
        simp only [cond_false] at hI hs
        have hs0 := fp_ta_out hs
        clear hs
        obtain ⟨as, st', rfl, has, hs⟩ := hs0
        rw [List.append_nil] at hs
        have hs0 := fp_cond_out hs
        clear hs
        obtain ⟨hq, d', hdd, hs⟩ := hs0
        have hst' : ∀ v ∈ st', fp_okV v := fun v hv => hst v (List.mem_append_right _ hv)
        exact fp_w_callS hj hC hsz hN hdd hR hX hK hP hS hH hst hI (by rw [List.reverse_reverse]) (by rw [List.length_reverse]; exact has) (Nat.le_of_ble_eq_true hq) (fp_dec hd) hs
          (fun v H' Hp' locs' h1 h2 h3 h4 h5 h6 => go h1 h4 h5 h6 h3 (by cases v with
            | none => exact hst'
            | some w => exact fp_okc (h2 w rfl) hst') hls hlv)
  | ireturn =>
    have hI : (decide (nx = pc + 1) && ((decide (bb = 0) && decide (r = some .int)) || (decide (bb = 1) && decide (r = some .boolean)))) = true := hI
    simp only [Bool.and_eq_true, Bool.or_eq_true, decide_eq_true_eq] at hI
    obtain ⟨rfl, hr⟩ := hI
    dsimp only at hs
    split at hs
    · rename_i z
      obtain ⟨hz, -⟩ := fp_okt hst
      have hs0 := fp_if_out hs
      clear hs
      obtain ⟨h01, hs⟩ := hs0
      refine ret pc mls H Hp locs (some (.inl z)) hH hP hS hX hs ⟨fp_dec hd, hz, ?_⟩ hsz
      rcases hr with ⟨rfl, h2⟩ | ⟨rfl, h2⟩
      · exact Or.inl h2
      · exact Or.inr ⟨h2, h01 rfl⟩
    · exact hs.elim
  | return_ =>
    have hI : (decide (nx = pc + 1) && decide (r = none)) = true := hI
    simp only [Bool.and_eq_true, decide_eq_true_eq] at hI
    obtain ⟨rfl, hr⟩ := hI
    dsimp only at hs
    split at hs
    · exact ret pc mls H Hp locs none hH hP hS hX hs ⟨hr, fp_dec hd⟩ hsz
    · exact hs.elim
  | tableswitch df lo hi offs =>
    have hI : (decide ((pc : Int) + df = (tg : Int)) && decide (hi = lo + ((fp_sw.getD a []).length : Int) - 1) && (List.range (fp_sw.getD a []).length).all (fun k => decide ((offs[k]?).map (fun o => (pc : Int) + o) = some (((fp_sw.getD a []).getD k 0 : Nat) : Int)))) = true := hI
    simp only [Bool.and_eq_true, decide_eq_true_eq] at hI
    obtain ⟨⟨hdf, hhi⟩, hall⟩ := hI
    have hs0 := fp_s1_out hs
    clear hs
    obtain ⟨x, st', rfl, hs⟩ := hs0
    obtain ⟨hx0, hst⟩ := fp_okt hst
    have hxi : (fp_oi x).toInt = x := fp_oi_T hx0
    by_cases hout : x < lo ∨ hi < x
    · exact lv_tableOut hx hb hd (by rw [hxi]; exact hout) hdf (go (hs.1 (by omega)) hX hP hS hH hst hls hlv)
    · have hk : (x - lo).toNat < (fp_sw.getD a []).length := by omega
      have h1 := of_decide_eq_true (List.all_eq_true.mp hall _ (List.mem_range.mpr hk))
      obtain ⟨o, ho1, ho2⟩ := Option.map_eq_some_iff.mp h1
      have h2 := fp_sws_out hs.2 _ hk (by omega)
      exact lv_tableIn hx hb hd (by rw [hxi]; omega) (by rw [hxi]; omega) (by rw [hxi]; exact ho1) ho2 (go h2 hX hP hS hH hst hls hlv)
  | _ => exact hs.elim
end FPJ
end
section
/-! the small methods, in the machine of numbers -/
abbrev FpG : Type := Nat → Nat → Int
/-- another content of one group -/
def fp_g (H : FpH) (g : Nat) (G : FpG) : FpH := fun g' => if g' = g then G else H g'
theorem fp_g_s {H : FpH} {g : Nat} {G : FpG} : fp_g H g G g = G := by simp [fp_g]
theorem fp_g_n {H : FpH} {g g' : Nat} {G : FpG} (h : g' ≠ g) : fp_g H g G g' = H g' := by simp [fp_g, h]
theorem fp_g_g {H : FpH} {g : Nat} {G G' : FpG} : fp_g (fp_g H g G) g G' = fp_g H g G' := by funext x; simp only [fp_g]; split <;> rfl
theorem fp_g_i {H : FpH} {g : Nat} : fp_g H g (H g) = H := by
  funext x; simp only [fp_g]; split
  · rename_i h; rw [h]
  · rfl
theorem fp_eqQ {Q : FpQ} {v : Option FpV} {H H' : FpH} (hq : Q v H) (e : H' = H) : Q v H' := e ▸ hq
theorem fp_eqW {L d u pc : Nat} {ls : FpL} {st : List FpV} {H H' : FpH} {Q : FpQ} (hq : fp_Wp L d u pc ls st H Q) (e : H' = H) : fp_Wp L d u pc ls st H' Q := e ▸ hq
theorem fp_up_c {H : FpH} {g c i g' c' i' : Nat} {v : Int} (h : (c' == c) = false) : fp_up H g c i v g' c' i' = H g' c' i' := by
  have : c' ≠ c := fun e => by subst e; simp at h
  simp [fp_up, this]
theorem fp_up_s {H : FpH} {g c i : Nat} {v : Int} : fp_up H g c i v g c i = v := by simp [fp_up]
theorem fp_up_i {H : FpH} {g c i g' c' i' : Nat} {v : Int} (h : (i' == i) = false) : fp_up H g c i v g' c' i' = H g' c' i' := by
  have : i' ≠ i := fun e => by subst e; simp at h
  simp [fp_up, this]
theorem fp_cp_c {H : FpH} {g c g' c' sp dp n G C I : Nat} (h : (C == c') = false) : fp_cp H g c g' c' sp dp n G C I = H G C I := by
  have : C ≠ c' := fun e => by subst e; simp at h
  simp [fp_cp, this]
theorem fp_hext {H H' : FpH} {g : Nat} {G : FpG} (h1 : ∀ x, x ≠ g → ∀ y z, H' x y z = H x y z) (h2 : ∀ y z, H' g y z = G y z) : H' = fp_g H g G := by
  funext x y z
  by_cases h : x = g
  · subst h; rw [fp_g_s]; exact h2 y z
  · rw [fp_g_n h]; exact h1 x h y z
/-- one write is another content of its group -/
def fp_gu (G : FpG) (c i : Nat) (v : Int) : FpG := fun c' i' => if c' = c ∧ i' = i then v else G c' i'
theorem fp_up_g {H : FpH} {g c i : Nat} {v : Int} : fp_up H g c i v = fp_g H g (fp_gu (H g) c i v) := by
  funext x y z
  simp only [fp_up, fp_g, fp_gu]
  by_cases h : x = g
  · subst h; simp [fp_gu]
  · simp [h]
set_option maxHeartbeats 600000 in
set_option maxRecDepth 100000 in
theorem sp_isIn {L d : Nat} {a b c : Int} {H : FpH} {Q : FpQ} (h1 : b ≤ a ∧ a ≤ c → Q (some (.inl 1)) H) (h0 : ¬ (b ≤ a ∧ a ≤ c) → Q (some (.inl 0)) H) : fp_Wp L d 77 0 (fp_en 77 [.inl a, .inl b, .inl c]) [] H Q := by
  refine fp_go 1000 [] (fun KN KC hN hC => ?_)
  conv => whnf
  (try simp only [Int.reduceToNat, Int.toNat_natCast, fp_up_c, fp_up_s, fp_up_i, fp_cp_c, fp_g_s, Nat.reduceBEq, Int.reduceAdd, Int.reduceSub, Int.reduceNeg, Int.reduceMul])
  (repeat' first
      | (refine And.intro (by first | omega | (unfold fp_rg; omega)) ?_; (try intro _); (conv => whnf); (try simp only [Int.reduceToNat, Int.toNat_natCast, fp_up_c, fp_up_s, fp_up_i, fp_cp_c, fp_g_s, Nat.reduceBEq, Int.reduceAdd, Int.reduceSub, Int.reduceNeg, Int.reduceMul]))
      | (refine And.intro (fun _ => ?_) (fun _ => ?_) <;> first | (exfalso; omega) | (rename_i hz_; exact absurd trivial hz_) | ((conv => whnf); (try simp only [Int.reduceToNat, Int.toNat_natCast, fp_up_c, fp_up_s, fp_up_i, fp_cp_c, fp_g_s, Nat.reduceBEq, Int.reduceAdd, Int.reduceSub, Int.reduceNeg, Int.reduceMul])))
      | (refine And.intro (by simp [fp_rg, fp_up, fp_cp] <;> omega) ?_; (conv => whnf); (try simp only [Int.reduceToNat, Int.toNat_natCast, fp_up_c, fp_up_s, fp_up_i, fp_cp_c, fp_g_s, Nat.reduceBEq, Int.reduceAdd, Int.reduceSub, Int.reduceNeg, Int.reduceMul]))
      | fail)
  all_goals first | exact h0 (by omega) | exact h1 (by omega)
set_option maxHeartbeats 600000 in
set_option maxRecDepth 100000 in
theorem sp_isStep {L d : Nat} {a : Int} {H : FpH} {Q : FpQ} (h1 : 0 ≤ a ∧ a < 8 → Q (some (.inl 1)) H) (h0 : ¬ (0 ≤ a ∧ a < 8) → Q (some (.inl 0)) H) : fp_Wp L (d + 1) 78 0 (fp_en 78 [.inl a]) [] H Q := by
  refine fp_go 1000 [] (fun KN KC hN hC => ?_)
  conv => whnf
  (try simp only [Int.reduceToNat, Int.toNat_natCast, fp_up_c, fp_up_s, fp_up_i, fp_cp_c, fp_g_s, Nat.reduceBEq, Int.reduceAdd, Int.reduceSub, Int.reduceNeg, Int.reduceMul])
  (repeat' first
      | (refine And.intro (by first | omega | (unfold fp_rg; omega)) ?_; (try intro _); (conv => whnf); (try simp only [Int.reduceToNat, Int.toNat_natCast, fp_up_c, fp_up_s, fp_up_i, fp_cp_c, fp_g_s, Nat.reduceBEq, Int.reduceAdd, Int.reduceSub, Int.reduceNeg, Int.reduceMul]))
      | (refine And.intro (fun _ => ?_) (fun _ => ?_) <;> first | (exfalso; omega) | (rename_i hz_; exact absurd trivial hz_) | ((conv => whnf); (try simp only [Int.reduceToNat, Int.toNat_natCast, fp_up_c, fp_up_s, fp_up_i, fp_cp_c, fp_g_s, Nat.reduceBEq, Int.reduceAdd, Int.reduceSub, Int.reduceNeg, Int.reduceMul])))
      | (refine And.intro (by simp [fp_rg, fp_up, fp_cp] <;> omega) ?_; (conv => whnf); (try simp only [Int.reduceToNat, Int.toNat_natCast, fp_up_c, fp_up_s, fp_up_i, fp_cp_c, fp_g_s, Nat.reduceBEq, Int.reduceAdd, Int.reduceSub, Int.reduceNeg, Int.reduceMul]))
      | fail)
  refine hC _ _ _ _ ⟨_, rfl, ?_⟩
  refine sp_isIn (fun h => ?_) (fun h => ?_)
  · conv => whnf
    (try simp only [Int.reduceToNat, Int.toNat_natCast, fp_up_c, fp_up_s, fp_up_i, fp_cp_c, fp_g_s, Nat.reduceBEq, Int.reduceAdd, Int.reduceSub, Int.reduceNeg, Int.reduceMul])
    (repeat' first
        | (refine And.intro (by first | omega | (unfold fp_rg; omega)) ?_; (try intro _); (conv => whnf); (try simp only [Int.reduceToNat, Int.toNat_natCast, fp_up_c, fp_up_s, fp_up_i, fp_cp_c, fp_g_s, Nat.reduceBEq, Int.reduceAdd, Int.reduceSub, Int.reduceNeg, Int.reduceMul]))
        | (refine And.intro (fun _ => ?_) (fun _ => ?_) <;> first | (exfalso; omega) | (rename_i hz_; exact absurd trivial hz_) | ((conv => whnf); (try simp only [Int.reduceToNat, Int.toNat_natCast, fp_up_c, fp_up_s, fp_up_i, fp_cp_c, fp_g_s, Nat.reduceBEq, Int.reduceAdd, Int.reduceSub, Int.reduceNeg, Int.reduceMul])))
        | (refine And.intro (by simp [fp_rg, fp_up, fp_cp] <;> omega) ?_; (conv => whnf); (try simp only [Int.reduceToNat, Int.toNat_natCast, fp_up_c, fp_up_s, fp_up_i, fp_cp_c, fp_g_s, Nat.reduceBEq, Int.reduceAdd, Int.reduceSub, Int.reduceNeg, Int.reduceMul]))
        | fail)
    exact h1 (by omega)
  · conv => whnf
    (try simp only [Int.reduceToNat, Int.toNat_natCast, fp_up_c, fp_up_s, fp_up_i, fp_cp_c, fp_g_s, Nat.reduceBEq, Int.reduceAdd, Int.reduceSub, Int.reduceNeg, Int.reduceMul])
    (repeat' first
        | (refine And.intro (by first | omega | (unfold fp_rg; omega)) ?_; (try intro _); (conv => whnf); (try simp only [Int.reduceToNat, Int.toNat_natCast, fp_up_c, fp_up_s, fp_up_i, fp_cp_c, fp_g_s, Nat.reduceBEq, Int.reduceAdd, Int.reduceSub, Int.reduceNeg, Int.reduceMul]))
        | (refine And.intro (fun _ => ?_) (fun _ => ?_) <;> first | (exfalso; omega) | (rename_i hz_; exact absurd trivial hz_) | ((conv => whnf); (try simp only [Int.reduceToNat, Int.toNat_natCast, fp_up_c, fp_up_s, fp_up_i, fp_cp_c, fp_g_s, Nat.reduceBEq, Int.reduceAdd, Int.reduceSub, Int.reduceNeg, Int.reduceMul])))
        | (refine And.intro (by simp [fp_rg, fp_up, fp_cp] <;> omega) ?_; (conv => whnf); (try simp only [Int.reduceToNat, Int.toNat_natCast, fp_up_c, fp_up_s, fp_up_i, fp_cp_c, fp_g_s, Nat.reduceBEq, Int.reduceAdd, Int.reduceSub, Int.reduceNeg, Int.reduceMul]))
        | fail)
    exact h0 (by omega)
set_option maxHeartbeats 600000 in
set_option maxRecDepth 100000 in
theorem sp_areFolds {L d : Nat} {a : Int} {H : FpH} {Q : FpQ} (h1 : 0 ≤ a ∧ a < 4 → Q (some (.inl 1)) H) (h0 : ¬ (0 ≤ a ∧ a < 4) → Q (some (.inl 0)) H) : fp_Wp L (d + 1) 79 0 (fp_en 79 [.inl a]) [] H Q := by
  refine fp_go 1000 [] (fun KN KC hN hC => ?_)
  conv => whnf
  (try simp only [Int.reduceToNat, Int.toNat_natCast, fp_up_c, fp_up_s, fp_up_i, fp_cp_c, fp_g_s, Nat.reduceBEq, Int.reduceAdd, Int.reduceSub, Int.reduceNeg, Int.reduceMul])
  (repeat' first
      | (refine And.intro (by first | omega | (unfold fp_rg; omega)) ?_; (try intro _); (conv => whnf); (try simp only [Int.reduceToNat, Int.toNat_natCast, fp_up_c, fp_up_s, fp_up_i, fp_cp_c, fp_g_s, Nat.reduceBEq, Int.reduceAdd, Int.reduceSub, Int.reduceNeg, Int.reduceMul]))
      | (refine And.intro (fun _ => ?_) (fun _ => ?_) <;> first | (exfalso; omega) | (rename_i hz_; exact absurd trivial hz_) | ((conv => whnf); (try simp only [Int.reduceToNat, Int.toNat_natCast, fp_up_c, fp_up_s, fp_up_i, fp_cp_c, fp_g_s, Nat.reduceBEq, Int.reduceAdd, Int.reduceSub, Int.reduceNeg, Int.reduceMul])))
      | (refine And.intro (by simp [fp_rg, fp_up, fp_cp] <;> omega) ?_; (conv => whnf); (try simp only [Int.reduceToNat, Int.toNat_natCast, fp_up_c, fp_up_s, fp_up_i, fp_cp_c, fp_g_s, Nat.reduceBEq, Int.reduceAdd, Int.reduceSub, Int.reduceNeg, Int.reduceMul]))
      | fail)
  refine hC _ _ _ _ ⟨_, rfl, ?_⟩
  refine sp_isIn (fun h => ?_) (fun h => ?_)
  · conv => whnf
    (try simp only [Int.reduceToNat, Int.toNat_natCast, fp_up_c, fp_up_s, fp_up_i, fp_cp_c, fp_g_s, Nat.reduceBEq, Int.reduceAdd, Int.reduceSub, Int.reduceNeg, Int.reduceMul])
    (repeat' first
        | (refine And.intro (by first | omega | (unfold fp_rg; omega)) ?_; (try intro _); (conv => whnf); (try simp only [Int.reduceToNat, Int.toNat_natCast, fp_up_c, fp_up_s, fp_up_i, fp_cp_c, fp_g_s, Nat.reduceBEq, Int.reduceAdd, Int.reduceSub, Int.reduceNeg, Int.reduceMul]))
        | (refine And.intro (fun _ => ?_) (fun _ => ?_) <;> first | (exfalso; omega) | (rename_i hz_; exact absurd trivial hz_) | ((conv => whnf); (try simp only [Int.reduceToNat, Int.toNat_natCast, fp_up_c, fp_up_s, fp_up_i, fp_cp_c, fp_g_s, Nat.reduceBEq, Int.reduceAdd, Int.reduceSub, Int.reduceNeg, Int.reduceMul])))
        | (refine And.intro (by simp [fp_rg, fp_up, fp_cp] <;> omega) ?_; (conv => whnf); (try simp only [Int.reduceToNat, Int.toNat_natCast, fp_up_c, fp_up_s, fp_up_i, fp_cp_c, fp_g_s, Nat.reduceBEq, Int.reduceAdd, Int.reduceSub, Int.reduceNeg, Int.reduceMul]))
        | fail)
    exact h1 (by omega)
  · conv => whnf
    (try simp only [Int.reduceToNat, Int.toNat_natCast, fp_up_c, fp_up_s, fp_up_i, fp_cp_c, fp_g_s, Nat.reduceBEq, Int.reduceAdd, Int.reduceSub, Int.reduceNeg, Int.reduceMul])
    (repeat' first
        | (refine And.intro (by first | omega | (unfold fp_rg; omega)) ?_; (try intro _); (conv => whnf); (try simp only [Int.reduceToNat, Int.toNat_natCast, fp_up_c, fp_up_s, fp_up_i, fp_cp_c, fp_g_s, Nat.reduceBEq, Int.reduceAdd, Int.reduceSub, Int.reduceNeg, Int.reduceMul]))
        | (refine And.intro (fun _ => ?_) (fun _ => ?_) <;> first | (exfalso; omega) | (rename_i hz_; exact absurd trivial hz_) | ((conv => whnf); (try simp only [Int.reduceToNat, Int.toNat_natCast, fp_up_c, fp_up_s, fp_up_i, fp_cp_c, fp_g_s, Nat.reduceBEq, Int.reduceAdd, Int.reduceSub, Int.reduceNeg, Int.reduceMul])))
        | (refine And.intro (by simp [fp_rg, fp_up, fp_cp] <;> omega) ?_; (conv => whnf); (try simp only [Int.reduceToNat, Int.toNat_natCast, fp_up_c, fp_up_s, fp_up_i, fp_cp_c, fp_g_s, Nat.reduceBEq, Int.reduceAdd, Int.reduceSub, Int.reduceNeg, Int.reduceMul]))
        | fail)
    exact h0 (by omega)
def fp_ly (a : Int) : Int := 2 ^ a.toNat
theorem fp_pw {a : Int} (h : 0 ≤ a ∧ a < 4) : (a = 0 ∧ fp_ly a = 1) ∨ (a = 1 ∧ fp_ly a = 2) ∨ (a = 2 ∧ fp_ly a = 4) ∨ (a = 3 ∧ fp_ly a = 8) := by
  have : a = 0 ∨ a = 1 ∨ a = 2 ∨ a = 3 := by omega
  rcases this with rfl | rfl | rfl | rfl <;> decide
set_option maxHeartbeats 600000 in
set_option maxRecDepth 100000 in
theorem sp_layersOf {L d : Nat} {a : Int} {H : FpH} {Q : FpQ} (h : 0 ≤ a ∧ a < 4) (hq : Q (some (.inl (fp_ly a))) H) : fp_Wp L d 80 0 (fp_en 80 [.inl a]) [] H Q := by
  refine fp_go 1000 [] (fun KN KC hN hC => ?_)
  conv => whnf
  (try simp only [Int.reduceToNat, Int.toNat_natCast, fp_up_c, fp_up_s, fp_up_i, fp_cp_c, fp_g_s, Nat.reduceBEq, Int.reduceAdd, Int.reduceSub, Int.reduceNeg, Int.reduceMul])
  (repeat' first
      | (refine And.intro (by first | omega | (unfold fp_rg; omega)) ?_; (try intro _); (conv => whnf); (try simp only [Int.reduceToNat, Int.toNat_natCast, fp_up_c, fp_up_s, fp_up_i, fp_cp_c, fp_g_s, Nat.reduceBEq, Int.reduceAdd, Int.reduceSub, Int.reduceNeg, Int.reduceMul]))
      | (refine And.intro (fun _ => ?_) (fun _ => ?_) <;> first | (exfalso; omega) | (rename_i hz_; exact absurd trivial hz_) | ((conv => whnf); (try simp only [Int.reduceToNat, Int.toNat_natCast, fp_up_c, fp_up_s, fp_up_i, fp_cp_c, fp_g_s, Nat.reduceBEq, Int.reduceAdd, Int.reduceSub, Int.reduceNeg, Int.reduceMul])))
      | (refine And.intro (by simp [fp_rg, fp_up, fp_cp] <;> omega) ?_; (conv => whnf); (try simp only [Int.reduceToNat, Int.toNat_natCast, fp_up_c, fp_up_s, fp_up_i, fp_cp_c, fp_g_s, Nat.reduceBEq, Int.reduceAdd, Int.reduceSub, Int.reduceNeg, Int.reduceMul]))
      | fail)
  exact hq
set_option maxHeartbeats 600000 in
set_option maxRecDepth 100000 in
theorem sp_leftLayersOf {L d : Nat} {a : Int} {H : FpH} {Q : FpQ} (h : 0 ≤ a ∧ a < 4) (hq : Q (some (.inl ((fp_ly a + 1) / 2))) H) : fp_Wp L (d + 1) 81 0 (fp_en 81 [.inl a]) [] H Q := by
  have hp := fp_pw h
  refine fp_go 1000 [] (fun KN KC hN hC => ?_)
  conv => whnf
  (try simp only [Int.reduceToNat, Int.toNat_natCast, fp_up_c, fp_up_s, fp_up_i, fp_cp_c, fp_g_s, Nat.reduceBEq, Int.reduceAdd, Int.reduceSub, Int.reduceNeg, Int.reduceMul])
  (repeat' first
      | (refine And.intro (by first | omega | (unfold fp_rg; omega)) ?_; (try intro _); (conv => whnf); (try simp only [Int.reduceToNat, Int.toNat_natCast, fp_up_c, fp_up_s, fp_up_i, fp_cp_c, fp_g_s, Nat.reduceBEq, Int.reduceAdd, Int.reduceSub, Int.reduceNeg, Int.reduceMul]))
      | (refine And.intro (fun _ => ?_) (fun _ => ?_) <;> first | (exfalso; omega) | (rename_i hz_; exact absurd trivial hz_) | ((conv => whnf); (try simp only [Int.reduceToNat, Int.toNat_natCast, fp_up_c, fp_up_s, fp_up_i, fp_cp_c, fp_g_s, Nat.reduceBEq, Int.reduceAdd, Int.reduceSub, Int.reduceNeg, Int.reduceMul])))
      | (refine And.intro (by simp [fp_rg, fp_up, fp_cp] <;> omega) ?_; (conv => whnf); (try simp only [Int.reduceToNat, Int.toNat_natCast, fp_up_c, fp_up_s, fp_up_i, fp_cp_c, fp_g_s, Nat.reduceBEq, Int.reduceAdd, Int.reduceSub, Int.reduceNeg, Int.reduceMul]))
      | fail)
  refine hC _ _ _ _ ⟨_, rfl, ?_⟩
  refine sp_layersOf h ?_
  conv => whnf
  (try simp only [Int.reduceToNat, Int.toNat_natCast, fp_up_c, fp_up_s, fp_up_i, fp_cp_c, fp_g_s, Nat.reduceBEq, Int.reduceAdd, Int.reduceSub, Int.reduceNeg, Int.reduceMul])
  (repeat' first
      | (refine And.intro (by first | omega | (unfold fp_rg; omega)) ?_; (try intro _); (conv => whnf); (try simp only [Int.reduceToNat, Int.toNat_natCast, fp_up_c, fp_up_s, fp_up_i, fp_cp_c, fp_g_s, Nat.reduceBEq, Int.reduceAdd, Int.reduceSub, Int.reduceNeg, Int.reduceMul]))
      | (refine And.intro (fun _ => ?_) (fun _ => ?_) <;> first | (exfalso; omega) | (rename_i hz_; exact absurd trivial hz_) | ((conv => whnf); (try simp only [Int.reduceToNat, Int.toNat_natCast, fp_up_c, fp_up_s, fp_up_i, fp_cp_c, fp_g_s, Nat.reduceBEq, Int.reduceAdd, Int.reduceSub, Int.reduceNeg, Int.reduceMul])))
      | (refine And.intro (by simp [fp_rg, fp_up, fp_cp] <;> omega) ?_; (conv => whnf); (try simp only [Int.reduceToNat, Int.toNat_natCast, fp_up_c, fp_up_s, fp_up_i, fp_cp_c, fp_g_s, Nat.reduceBEq, Int.reduceAdd, Int.reduceSub, Int.reduceNeg, Int.reduceMul]))
      | fail)
  exact hq
set_option maxHeartbeats 600000 in
set_option maxRecDepth 100000 in
theorem sp_rightLayersOf {L d : Nat} {a : Int} {H : FpH} {Q : FpQ} (h : 0 ≤ a ∧ a < 4) (hq : Q (some (.inl (fp_ly a / 2))) H) : fp_Wp L (d + 1) 82 0 (fp_en 82 [.inl a]) [] H Q := by
  have hp := fp_pw h
  refine fp_go 1000 [] (fun KN KC hN hC => ?_)
  conv => whnf
  (try simp only [Int.reduceToNat, Int.toNat_natCast, fp_up_c, fp_up_s, fp_up_i, fp_cp_c, fp_g_s, Nat.reduceBEq, Int.reduceAdd, Int.reduceSub, Int.reduceNeg, Int.reduceMul])
  (repeat' first
      | (refine And.intro (by first | omega | (unfold fp_rg; omega)) ?_; (try intro _); (conv => whnf); (try simp only [Int.reduceToNat, Int.toNat_natCast, fp_up_c, fp_up_s, fp_up_i, fp_cp_c, fp_g_s, Nat.reduceBEq, Int.reduceAdd, Int.reduceSub, Int.reduceNeg, Int.reduceMul]))
      | (refine And.intro (fun _ => ?_) (fun _ => ?_) <;> first | (exfalso; omega) | (rename_i hz_; exact absurd trivial hz_) | ((conv => whnf); (try simp only [Int.reduceToNat, Int.toNat_natCast, fp_up_c, fp_up_s, fp_up_i, fp_cp_c, fp_g_s, Nat.reduceBEq, Int.reduceAdd, Int.reduceSub, Int.reduceNeg, Int.reduceMul])))
      | (refine And.intro (by simp [fp_rg, fp_up, fp_cp] <;> omega) ?_; (conv => whnf); (try simp only [Int.reduceToNat, Int.toNat_natCast, fp_up_c, fp_up_s, fp_up_i, fp_cp_c, fp_g_s, Nat.reduceBEq, Int.reduceAdd, Int.reduceSub, Int.reduceNeg, Int.reduceMul]))
      | fail)
  refine hC _ _ _ _ ⟨_, rfl, ?_⟩
  refine sp_layersOf h ?_
  conv => whnf
  (try simp only [Int.reduceToNat, Int.toNat_natCast, fp_up_c, fp_up_s, fp_up_i, fp_cp_c, fp_g_s, Nat.reduceBEq, Int.reduceAdd, Int.reduceSub, Int.reduceNeg, Int.reduceMul])
  (repeat' first
      | (refine And.intro (by first | omega | (unfold fp_rg; omega)) ?_; (try intro _); (conv => whnf); (try simp only [Int.reduceToNat, Int.toNat_natCast, fp_up_c, fp_up_s, fp_up_i, fp_cp_c, fp_g_s, Nat.reduceBEq, Int.reduceAdd, Int.reduceSub, Int.reduceNeg, Int.reduceMul]))
      | (refine And.intro (fun _ => ?_) (fun _ => ?_) <;> first | (exfalso; omega) | (rename_i hz_; exact absurd trivial hz_) | ((conv => whnf); (try simp only [Int.reduceToNat, Int.toNat_natCast, fp_up_c, fp_up_s, fp_up_i, fp_cp_c, fp_g_s, Nat.reduceBEq, Int.reduceAdd, Int.reduceSub, Int.reduceNeg, Int.reduceMul])))
      | (refine And.intro (by simp [fp_rg, fp_up, fp_cp] <;> omega) ?_; (conv => whnf); (try simp only [Int.reduceToNat, Int.toNat_natCast, fp_up_c, fp_up_s, fp_up_i, fp_cp_c, fp_g_s, Nat.reduceBEq, Int.reduceAdd, Int.reduceSub, Int.reduceNeg, Int.reduceMul]))
      | fail)
  exact hq
set_option maxHeartbeats 600000 in
set_option maxRecDepth 100000 in
theorem sp_in {L d : Nat} {a b c : Int} {H : FpH} {Q : FpQ} (h1 : b ≤ a ∧ a ≤ c → Q (some (.inl 1)) H) (h0 : ¬ (b ≤ a ∧ a ≤ c) → Q (some (.inl 0)) H) : fp_Wp L d 83 0 (fp_en 83 [.inl a, .inl b, .inl c]) [] H Q := by
  refine fp_go 1000 [] (fun KN KC hN hC => ?_)
  conv => whnf
  (try simp only [Int.reduceToNat, Int.toNat_natCast, fp_up_c, fp_up_s, fp_up_i, fp_cp_c, fp_g_s, Nat.reduceBEq, Int.reduceAdd, Int.reduceSub, Int.reduceNeg, Int.reduceMul])
  (repeat' first
      | (refine And.intro (by first | omega | (unfold fp_rg; omega)) ?_; (try intro _); (conv => whnf); (try simp only [Int.reduceToNat, Int.toNat_natCast, fp_up_c, fp_up_s, fp_up_i, fp_cp_c, fp_g_s, Nat.reduceBEq, Int.reduceAdd, Int.reduceSub, Int.reduceNeg, Int.reduceMul]))
      | (refine And.intro (fun _ => ?_) (fun _ => ?_) <;> first | (exfalso; omega) | (rename_i hz_; exact absurd trivial hz_) | ((conv => whnf); (try simp only [Int.reduceToNat, Int.toNat_natCast, fp_up_c, fp_up_s, fp_up_i, fp_cp_c, fp_g_s, Nat.reduceBEq, Int.reduceAdd, Int.reduceSub, Int.reduceNeg, Int.reduceMul])))
      | (refine And.intro (by simp [fp_rg, fp_up, fp_cp] <;> omega) ?_; (conv => whnf); (try simp only [Int.reduceToNat, Int.toNat_natCast, fp_up_c, fp_up_s, fp_up_i, fp_cp_c, fp_g_s, Nat.reduceBEq, Int.reduceAdd, Int.reduceSub, Int.reduceNeg, Int.reduceMul]))
      | fail)
  all_goals first | exact h0 (by omega) | exact h1 (by omega)
set_option maxHeartbeats 600000 in
set_option maxRecDepth 100000 in
theorem sp_isProfile {L d : Nat} {a : Int} {H : FpH} {Q : FpQ} (h : 0 ≤ H 8 23 3 ∧ H 8 23 3 ≤ 10) (h1 : 0 ≤ a ∧ a < H 8 23 3 → Q (some (.inl 1)) H) (h0 : ¬ (0 ≤ a ∧ a < H 8 23 3) → Q (some (.inl 0)) H) : fp_Wp L (d + 1) 84 0 (fp_en 84 [.inr (8, 22), .inl a]) [] H Q := by
  refine fp_go 1000 [] (fun KN KC hN hC => ?_)
  conv => whnf
  (try simp only [Int.reduceToNat, Int.toNat_natCast, fp_up_c, fp_up_s, fp_up_i, fp_cp_c, fp_g_s, Nat.reduceBEq, Int.reduceAdd, Int.reduceSub, Int.reduceNeg, Int.reduceMul])
  (repeat' first
      | (refine And.intro (by first | omega | (unfold fp_rg; omega)) ?_; (try intro _); (conv => whnf); (try simp only [Int.reduceToNat, Int.toNat_natCast, fp_up_c, fp_up_s, fp_up_i, fp_cp_c, fp_g_s, Nat.reduceBEq, Int.reduceAdd, Int.reduceSub, Int.reduceNeg, Int.reduceMul]))
      | (refine And.intro (fun _ => ?_) (fun _ => ?_) <;> first | (exfalso; omega) | (rename_i hz_; exact absurd trivial hz_) | ((conv => whnf); (try simp only [Int.reduceToNat, Int.toNat_natCast, fp_up_c, fp_up_s, fp_up_i, fp_cp_c, fp_g_s, Nat.reduceBEq, Int.reduceAdd, Int.reduceSub, Int.reduceNeg, Int.reduceMul])))
      | (refine And.intro (by simp [fp_rg, fp_up, fp_cp] <;> omega) ?_; (conv => whnf); (try simp only [Int.reduceToNat, Int.toNat_natCast, fp_up_c, fp_up_s, fp_up_i, fp_cp_c, fp_g_s, Nat.reduceBEq, Int.reduceAdd, Int.reduceSub, Int.reduceNeg, Int.reduceMul]))
      | fail)
  refine hC _ _ _ _ ⟨_, rfl, ?_⟩
  refine sp_in (fun h => ?_) (fun h => ?_)
  · conv => whnf
    (try simp only [Int.reduceToNat, Int.toNat_natCast, fp_up_c, fp_up_s, fp_up_i, fp_cp_c, fp_g_s, Nat.reduceBEq, Int.reduceAdd, Int.reduceSub, Int.reduceNeg, Int.reduceMul])
    (repeat' first
        | (refine And.intro (by first | omega | (unfold fp_rg; omega)) ?_; (try intro _); (conv => whnf); (try simp only [Int.reduceToNat, Int.toNat_natCast, fp_up_c, fp_up_s, fp_up_i, fp_cp_c, fp_g_s, Nat.reduceBEq, Int.reduceAdd, Int.reduceSub, Int.reduceNeg, Int.reduceMul]))
        | (refine And.intro (fun _ => ?_) (fun _ => ?_) <;> first | (exfalso; omega) | (rename_i hz_; exact absurd trivial hz_) | ((conv => whnf); (try simp only [Int.reduceToNat, Int.toNat_natCast, fp_up_c, fp_up_s, fp_up_i, fp_cp_c, fp_g_s, Nat.reduceBEq, Int.reduceAdd, Int.reduceSub, Int.reduceNeg, Int.reduceMul])))
        | (refine And.intro (by simp [fp_rg, fp_up, fp_cp] <;> omega) ?_; (conv => whnf); (try simp only [Int.reduceToNat, Int.toNat_natCast, fp_up_c, fp_up_s, fp_up_i, fp_cp_c, fp_g_s, Nat.reduceBEq, Int.reduceAdd, Int.reduceSub, Int.reduceNeg, Int.reduceMul]))
        | fail)
    exact h1 (by omega)
  · conv => whnf
    (try simp only [Int.reduceToNat, Int.toNat_natCast, fp_up_c, fp_up_s, fp_up_i, fp_cp_c, fp_g_s, Nat.reduceBEq, Int.reduceAdd, Int.reduceSub, Int.reduceNeg, Int.reduceMul])
    (repeat' first
        | (refine And.intro (by first | omega | (unfold fp_rg; omega)) ?_; (try intro _); (conv => whnf); (try simp only [Int.reduceToNat, Int.toNat_natCast, fp_up_c, fp_up_s, fp_up_i, fp_cp_c, fp_g_s, Nat.reduceBEq, Int.reduceAdd, Int.reduceSub, Int.reduceNeg, Int.reduceMul]))
        | (refine And.intro (fun _ => ?_) (fun _ => ?_) <;> first | (exfalso; omega) | (rename_i hz_; exact absurd trivial hz_) | ((conv => whnf); (try simp only [Int.reduceToNat, Int.toNat_natCast, fp_up_c, fp_up_s, fp_up_i, fp_cp_c, fp_g_s, Nat.reduceBEq, Int.reduceAdd, Int.reduceSub, Int.reduceNeg, Int.reduceMul])))
        | (refine And.intro (by simp [fp_rg, fp_up, fp_cp] <;> omega) ?_; (conv => whnf); (try simp only [Int.reduceToNat, Int.toNat_natCast, fp_up_c, fp_up_s, fp_up_i, fp_cp_c, fp_g_s, Nat.reduceBEq, Int.reduceAdd, Int.reduceSub, Int.reduceNeg, Int.reduceMul]))
        | fail)
    exact h0 (by omega)
set_option maxHeartbeats 600000 in
set_option maxRecDepth 100000 in
theorem sp_isStrip {L d : Nat} {a : Int} {H : FpH} {Q : FpQ} (h : 0 ≤ H 8 23 114 ∧ H 8 23 114 ≤ 6) (h1 : 0 ≤ a ∧ a < H 8 23 114 → Q (some (.inl 1)) H) (h0 : ¬ (0 ≤ a ∧ a < H 8 23 114) → Q (some (.inl 0)) H) : fp_Wp L (d + 1) 85 0 (fp_en 85 [.inr (8, 22), .inl a]) [] H Q := by
  refine fp_go 1000 [] (fun KN KC hN hC => ?_)
  conv => whnf
  (try simp only [Int.reduceToNat, Int.toNat_natCast, fp_up_c, fp_up_s, fp_up_i, fp_cp_c, fp_g_s, Nat.reduceBEq, Int.reduceAdd, Int.reduceSub, Int.reduceNeg, Int.reduceMul])
  (repeat' first
      | (refine And.intro (by first | omega | (unfold fp_rg; omega)) ?_; (try intro _); (conv => whnf); (try simp only [Int.reduceToNat, Int.toNat_natCast, fp_up_c, fp_up_s, fp_up_i, fp_cp_c, fp_g_s, Nat.reduceBEq, Int.reduceAdd, Int.reduceSub, Int.reduceNeg, Int.reduceMul]))
      | (refine And.intro (fun _ => ?_) (fun _ => ?_) <;> first | (exfalso; omega) | (rename_i hz_; exact absurd trivial hz_) | ((conv => whnf); (try simp only [Int.reduceToNat, Int.toNat_natCast, fp_up_c, fp_up_s, fp_up_i, fp_cp_c, fp_g_s, Nat.reduceBEq, Int.reduceAdd, Int.reduceSub, Int.reduceNeg, Int.reduceMul])))
      | (refine And.intro (by simp [fp_rg, fp_up, fp_cp] <;> omega) ?_; (conv => whnf); (try simp only [Int.reduceToNat, Int.toNat_natCast, fp_up_c, fp_up_s, fp_up_i, fp_cp_c, fp_g_s, Nat.reduceBEq, Int.reduceAdd, Int.reduceSub, Int.reduceNeg, Int.reduceMul]))
      | fail)
  refine hC _ _ _ _ ⟨_, rfl, ?_⟩
  refine sp_in (fun h => ?_) (fun h => ?_)
  · conv => whnf
    (try simp only [Int.reduceToNat, Int.toNat_natCast, fp_up_c, fp_up_s, fp_up_i, fp_cp_c, fp_g_s, Nat.reduceBEq, Int.reduceAdd, Int.reduceSub, Int.reduceNeg, Int.reduceMul])
    (repeat' first
        | (refine And.intro (by first | omega | (unfold fp_rg; omega)) ?_; (try intro _); (conv => whnf); (try simp only [Int.reduceToNat, Int.toNat_natCast, fp_up_c, fp_up_s, fp_up_i, fp_cp_c, fp_g_s, Nat.reduceBEq, Int.reduceAdd, Int.reduceSub, Int.reduceNeg, Int.reduceMul]))
        | (refine And.intro (fun _ => ?_) (fun _ => ?_) <;> first | (exfalso; omega) | (rename_i hz_; exact absurd trivial hz_) | ((conv => whnf); (try simp only [Int.reduceToNat, Int.toNat_natCast, fp_up_c, fp_up_s, fp_up_i, fp_cp_c, fp_g_s, Nat.reduceBEq, Int.reduceAdd, Int.reduceSub, Int.reduceNeg, Int.reduceMul])))
        | (refine And.intro (by simp [fp_rg, fp_up, fp_cp] <;> omega) ?_; (conv => whnf); (try simp only [Int.reduceToNat, Int.toNat_natCast, fp_up_c, fp_up_s, fp_up_i, fp_cp_c, fp_g_s, Nat.reduceBEq, Int.reduceAdd, Int.reduceSub, Int.reduceNeg, Int.reduceMul]))
        | fail)
    exact h1 (by omega)
  · conv => whnf
    (try simp only [Int.reduceToNat, Int.toNat_natCast, fp_up_c, fp_up_s, fp_up_i, fp_cp_c, fp_g_s, Nat.reduceBEq, Int.reduceAdd, Int.reduceSub, Int.reduceNeg, Int.reduceMul])
    (repeat' first
        | (refine And.intro (by first | omega | (unfold fp_rg; omega)) ?_; (try intro _); (conv => whnf); (try simp only [Int.reduceToNat, Int.toNat_natCast, fp_up_c, fp_up_s, fp_up_i, fp_cp_c, fp_g_s, Nat.reduceBEq, Int.reduceAdd, Int.reduceSub, Int.reduceNeg, Int.reduceMul]))
        | (refine And.intro (fun _ => ?_) (fun _ => ?_) <;> first | (exfalso; omega) | (rename_i hz_; exact absurd trivial hz_) | ((conv => whnf); (try simp only [Int.reduceToNat, Int.toNat_natCast, fp_up_c, fp_up_s, fp_up_i, fp_cp_c, fp_g_s, Nat.reduceBEq, Int.reduceAdd, Int.reduceSub, Int.reduceNeg, Int.reduceMul])))
        | (refine And.intro (by simp [fp_rg, fp_up, fp_cp] <;> omega) ?_; (conv => whnf); (try simp only [Int.reduceToNat, Int.toNat_natCast, fp_up_c, fp_up_s, fp_up_i, fp_cp_c, fp_g_s, Nat.reduceBEq, Int.reduceAdd, Int.reduceSub, Int.reduceNeg, Int.reduceMul]))
        | fail)
    exact h0 (by omega)
set_option maxHeartbeats 600000 in
set_option maxRecDepth 100000 in
theorem sp_isSitter {L d : Nat} {a : Int} {H : FpH} {Q : FpQ} (h : 0 ≤ H 8 23 127 ∧ H 8 23 127 ≤ 12) (h1 : 0 ≤ a ∧ a < H 8 23 127 → Q (some (.inl 1)) H) (h0 : ¬ (0 ≤ a ∧ a < H 8 23 127) → Q (some (.inl 0)) H) : fp_Wp L (d + 1) 86 0 (fp_en 86 [.inr (8, 22), .inl a]) [] H Q := by
  refine fp_go 1000 [] (fun KN KC hN hC => ?_)
  conv => whnf
  (try simp only [Int.reduceToNat, Int.toNat_natCast, fp_up_c, fp_up_s, fp_up_i, fp_cp_c, fp_g_s, Nat.reduceBEq, Int.reduceAdd, Int.reduceSub, Int.reduceNeg, Int.reduceMul])
  (repeat' first
      | (refine And.intro (by first | omega | (unfold fp_rg; omega)) ?_; (try intro _); (conv => whnf); (try simp only [Int.reduceToNat, Int.toNat_natCast, fp_up_c, fp_up_s, fp_up_i, fp_cp_c, fp_g_s, Nat.reduceBEq, Int.reduceAdd, Int.reduceSub, Int.reduceNeg, Int.reduceMul]))
      | (refine And.intro (fun _ => ?_) (fun _ => ?_) <;> first | (exfalso; omega) | (rename_i hz_; exact absurd trivial hz_) | ((conv => whnf); (try simp only [Int.reduceToNat, Int.toNat_natCast, fp_up_c, fp_up_s, fp_up_i, fp_cp_c, fp_g_s, Nat.reduceBEq, Int.reduceAdd, Int.reduceSub, Int.reduceNeg, Int.reduceMul])))
      | (refine And.intro (by simp [fp_rg, fp_up, fp_cp] <;> omega) ?_; (conv => whnf); (try simp only [Int.reduceToNat, Int.toNat_natCast, fp_up_c, fp_up_s, fp_up_i, fp_cp_c, fp_g_s, Nat.reduceBEq, Int.reduceAdd, Int.reduceSub, Int.reduceNeg, Int.reduceMul]))
      | fail)
  refine hC _ _ _ _ ⟨_, rfl, ?_⟩
  refine sp_in (fun h => ?_) (fun h => ?_)
  · conv => whnf
    (try simp only [Int.reduceToNat, Int.toNat_natCast, fp_up_c, fp_up_s, fp_up_i, fp_cp_c, fp_g_s, Nat.reduceBEq, Int.reduceAdd, Int.reduceSub, Int.reduceNeg, Int.reduceMul])
    (repeat' first
        | (refine And.intro (by first | omega | (unfold fp_rg; omega)) ?_; (try intro _); (conv => whnf); (try simp only [Int.reduceToNat, Int.toNat_natCast, fp_up_c, fp_up_s, fp_up_i, fp_cp_c, fp_g_s, Nat.reduceBEq, Int.reduceAdd, Int.reduceSub, Int.reduceNeg, Int.reduceMul]))
        | (refine And.intro (fun _ => ?_) (fun _ => ?_) <;> first | (exfalso; omega) | (rename_i hz_; exact absurd trivial hz_) | ((conv => whnf); (try simp only [Int.reduceToNat, Int.toNat_natCast, fp_up_c, fp_up_s, fp_up_i, fp_cp_c, fp_g_s, Nat.reduceBEq, Int.reduceAdd, Int.reduceSub, Int.reduceNeg, Int.reduceMul])))
        | (refine And.intro (by simp [fp_rg, fp_up, fp_cp] <;> omega) ?_; (conv => whnf); (try simp only [Int.reduceToNat, Int.toNat_natCast, fp_up_c, fp_up_s, fp_up_i, fp_cp_c, fp_g_s, Nat.reduceBEq, Int.reduceAdd, Int.reduceSub, Int.reduceNeg, Int.reduceMul]))
        | fail)
    exact h1 (by omega)
  · conv => whnf
    (try simp only [Int.reduceToNat, Int.toNat_natCast, fp_up_c, fp_up_s, fp_up_i, fp_cp_c, fp_g_s, Nat.reduceBEq, Int.reduceAdd, Int.reduceSub, Int.reduceNeg, Int.reduceMul])
    (repeat' first
        | (refine And.intro (by first | omega | (unfold fp_rg; omega)) ?_; (try intro _); (conv => whnf); (try simp only [Int.reduceToNat, Int.toNat_natCast, fp_up_c, fp_up_s, fp_up_i, fp_cp_c, fp_g_s, Nat.reduceBEq, Int.reduceAdd, Int.reduceSub, Int.reduceNeg, Int.reduceMul]))
        | (refine And.intro (fun _ => ?_) (fun _ => ?_) <;> first | (exfalso; omega) | (rename_i hz_; exact absurd trivial hz_) | ((conv => whnf); (try simp only [Int.reduceToNat, Int.toNat_natCast, fp_up_c, fp_up_s, fp_up_i, fp_cp_c, fp_g_s, Nat.reduceBEq, Int.reduceAdd, Int.reduceSub, Int.reduceNeg, Int.reduceMul])))
        | (refine And.intro (by simp [fp_rg, fp_up, fp_cp] <;> omega) ?_; (conv => whnf); (try simp only [Int.reduceToNat, Int.toNat_natCast, fp_up_c, fp_up_s, fp_up_i, fp_cp_c, fp_g_s, Nat.reduceBEq, Int.reduceAdd, Int.reduceSub, Int.reduceNeg, Int.reduceMul]))
        | fail)
    exact h0 (by omega)
set_option maxHeartbeats 600000 in
set_option maxRecDepth 100000 in
theorem sp_profileAt {L d : Nat} {b p : Int} {H : FpH} {Q : FpQ} (h : 0 ≤ b ∧ b ≤ 1020 ∧ 0 ≤ p ∧ p ≤ 12) (hq : Q (some (.inl (b + 4 + 11 * p))) H) : fp_Wp L d 90 0 (fp_en 90 [.inl b, .inl p]) [] H Q := by
  refine fp_go 1000 [] (fun KN KC hN hC => ?_)
  conv => whnf
  (try simp only [Int.reduceToNat, Int.toNat_natCast, fp_up_c, fp_up_s, fp_up_i, fp_cp_c, fp_g_s, Nat.reduceBEq, Int.reduceAdd, Int.reduceSub, Int.reduceNeg, Int.reduceMul])
  (repeat' first
      | (refine And.intro (by first | omega | (unfold fp_rg; omega)) ?_; (try intro _); (conv => whnf); (try simp only [Int.reduceToNat, Int.toNat_natCast, fp_up_c, fp_up_s, fp_up_i, fp_cp_c, fp_g_s, Nat.reduceBEq, Int.reduceAdd, Int.reduceSub, Int.reduceNeg, Int.reduceMul]))
      | (refine And.intro (fun _ => ?_) (fun _ => ?_) <;> first | (exfalso; omega) | (rename_i hz_; exact absurd trivial hz_) | ((conv => whnf); (try simp only [Int.reduceToNat, Int.toNat_natCast, fp_up_c, fp_up_s, fp_up_i, fp_cp_c, fp_g_s, Nat.reduceBEq, Int.reduceAdd, Int.reduceSub, Int.reduceNeg, Int.reduceMul])))
      | (refine And.intro (by simp [fp_rg, fp_up, fp_cp] <;> omega) ?_; (conv => whnf); (try simp only [Int.reduceToNat, Int.toNat_natCast, fp_up_c, fp_up_s, fp_up_i, fp_cp_c, fp_g_s, Nat.reduceBEq, Int.reduceAdd, Int.reduceSub, Int.reduceNeg, Int.reduceMul]))
      | fail)
  exact hq
set_option maxHeartbeats 600000 in
set_option maxRecDepth 100000 in
theorem sp_stripAt {L d : Nat} {b p : Int} {H : FpH} {Q : FpQ} (h : 0 ≤ b ∧ b ≤ 1020 ∧ 0 ≤ p ∧ p ≤ 12) (hq : Q (some (.inl (b + 115 + 2 * p))) H) : fp_Wp L d 91 0 (fp_en 91 [.inl b, .inl p]) [] H Q := by
  refine fp_go 1000 [] (fun KN KC hN hC => ?_)
  conv => whnf
  (try simp only [Int.reduceToNat, Int.toNat_natCast, fp_up_c, fp_up_s, fp_up_i, fp_cp_c, fp_g_s, Nat.reduceBEq, Int.reduceAdd, Int.reduceSub, Int.reduceNeg, Int.reduceMul])
  (repeat' first
      | (refine And.intro (by first | omega | (unfold fp_rg; omega)) ?_; (try intro _); (conv => whnf); (try simp only [Int.reduceToNat, Int.toNat_natCast, fp_up_c, fp_up_s, fp_up_i, fp_cp_c, fp_g_s, Nat.reduceBEq, Int.reduceAdd, Int.reduceSub, Int.reduceNeg, Int.reduceMul]))
      | (refine And.intro (fun _ => ?_) (fun _ => ?_) <;> first | (exfalso; omega) | (rename_i hz_; exact absurd trivial hz_) | ((conv => whnf); (try simp only [Int.reduceToNat, Int.toNat_natCast, fp_up_c, fp_up_s, fp_up_i, fp_cp_c, fp_g_s, Nat.reduceBEq, Int.reduceAdd, Int.reduceSub, Int.reduceNeg, Int.reduceMul])))
      | (refine And.intro (by simp [fp_rg, fp_up, fp_cp] <;> omega) ?_; (conv => whnf); (try simp only [Int.reduceToNat, Int.toNat_natCast, fp_up_c, fp_up_s, fp_up_i, fp_cp_c, fp_g_s, Nat.reduceBEq, Int.reduceAdd, Int.reduceSub, Int.reduceNeg, Int.reduceMul]))
      | fail)
  exact hq
set_option maxHeartbeats 600000 in
set_option maxRecDepth 100000 in
theorem sp_sitterAt {L d : Nat} {b p : Int} {H : FpH} {Q : FpQ} (h : 0 ≤ b ∧ b ≤ 1020 ∧ 0 ≤ p ∧ p ≤ 12) (hq : Q (some (.inl (b + 128 + 3 * p))) H) : fp_Wp L d 92 0 (fp_en 92 [.inl b, .inl p]) [] H Q := by
  refine fp_go 1000 [] (fun KN KC hN hC => ?_)
  conv => whnf
  (try simp only [Int.reduceToNat, Int.toNat_natCast, fp_up_c, fp_up_s, fp_up_i, fp_cp_c, fp_g_s, Nat.reduceBEq, Int.reduceAdd, Int.reduceSub, Int.reduceNeg, Int.reduceMul])
  (repeat' first
      | (refine And.intro (by first | omega | (unfold fp_rg; omega)) ?_; (try intro _); (conv => whnf); (try simp only [Int.reduceToNat, Int.toNat_natCast, fp_up_c, fp_up_s, fp_up_i, fp_cp_c, fp_g_s, Nat.reduceBEq, Int.reduceAdd, Int.reduceSub, Int.reduceNeg, Int.reduceMul]))
      | (refine And.intro (fun _ => ?_) (fun _ => ?_) <;> first | (exfalso; omega) | (rename_i hz_; exact absurd trivial hz_) | ((conv => whnf); (try simp only [Int.reduceToNat, Int.toNat_natCast, fp_up_c, fp_up_s, fp_up_i, fp_cp_c, fp_g_s, Nat.reduceBEq, Int.reduceAdd, Int.reduceSub, Int.reduceNeg, Int.reduceMul])))
      | (refine And.intro (by simp [fp_rg, fp_up, fp_cp] <;> omega) ?_; (conv => whnf); (try simp only [Int.reduceToNat, Int.toNat_natCast, fp_up_c, fp_up_s, fp_up_i, fp_cp_c, fp_g_s, Nat.reduceBEq, Int.reduceAdd, Int.reduceSub, Int.reduceNeg, Int.reduceMul]))
      | fail)
  exact hq
set_option maxHeartbeats 600000 in
set_option maxRecDepth 100000 in
theorem sp_lhas {L d g : Nat} {a : Int} {H : FpH} {Q : FpQ} (h1 : 0 ≤ a ∧ a < H g 9 3 → Q (some (.inl 1)) H) (h0 : ¬ (0 ≤ a ∧ a < H g 9 3) → Q (some (.inl 0)) H) : fp_Wp L d 4 0 (fp_en 4 [.inr (g, 9), .inl a]) [] H Q := by
  refine fp_go 1000 [] (fun KN KC hN hC => ?_)
  conv => whnf
  (try simp only [Int.reduceToNat, Int.toNat_natCast, fp_up_c, fp_up_s, fp_up_i, fp_cp_c, fp_g_s, Nat.reduceBEq, Int.reduceAdd, Int.reduceSub, Int.reduceNeg, Int.reduceMul])
  (repeat' first
      | (refine And.intro (by first | omega | (unfold fp_rg; omega)) ?_; (try intro _); (conv => whnf); (try simp only [Int.reduceToNat, Int.toNat_natCast, fp_up_c, fp_up_s, fp_up_i, fp_cp_c, fp_g_s, Nat.reduceBEq, Int.reduceAdd, Int.reduceSub, Int.reduceNeg, Int.reduceMul]))
      | (refine And.intro (fun _ => ?_) (fun _ => ?_) <;> first | (exfalso; omega) | (rename_i hz_; exact absurd trivial hz_) | ((conv => whnf); (try simp only [Int.reduceToNat, Int.toNat_natCast, fp_up_c, fp_up_s, fp_up_i, fp_cp_c, fp_g_s, Nat.reduceBEq, Int.reduceAdd, Int.reduceSub, Int.reduceNeg, Int.reduceMul])))
      | (refine And.intro (by simp [fp_rg, fp_up, fp_cp] <;> omega) ?_; (conv => whnf); (try simp only [Int.reduceToNat, Int.toNat_natCast, fp_up_c, fp_up_s, fp_up_i, fp_cp_c, fp_g_s, Nat.reduceBEq, Int.reduceAdd, Int.reduceSub, Int.reduceNeg, Int.reduceMul]))
      | fail)
  all_goals first | exact h0 (by omega) | exact h1 (by omega)
set_option maxHeartbeats 600000 in
set_option maxRecDepth 100000 in
theorem sp_phas {L d g : Nat} {a : Int} {H : FpH} {Q : FpQ} (h1 : 0 ≤ a ∧ a < H g 1 4 → Q (some (.inl 1)) H) (h0 : ¬ (0 ≤ a ∧ a < H g 1 4) → Q (some (.inl 0)) H) : fp_Wp L d 12 0 (fp_en 12 [.inr (g, 1), .inl a]) [] H Q := by
  refine fp_go 1000 [] (fun KN KC hN hC => ?_)
  conv => whnf
  (try simp only [Int.reduceToNat, Int.toNat_natCast, fp_up_c, fp_up_s, fp_up_i, fp_cp_c, fp_g_s, Nat.reduceBEq, Int.reduceAdd, Int.reduceSub, Int.reduceNeg, Int.reduceMul])
  (repeat' first
      | (refine And.intro (by first | omega | (unfold fp_rg; omega)) ?_; (try intro _); (conv => whnf); (try simp only [Int.reduceToNat, Int.toNat_natCast, fp_up_c, fp_up_s, fp_up_i, fp_cp_c, fp_g_s, Nat.reduceBEq, Int.reduceAdd, Int.reduceSub, Int.reduceNeg, Int.reduceMul]))
      | (refine And.intro (fun _ => ?_) (fun _ => ?_) <;> first | (exfalso; omega) | (rename_i hz_; exact absurd trivial hz_) | ((conv => whnf); (try simp only [Int.reduceToNat, Int.toNat_natCast, fp_up_c, fp_up_s, fp_up_i, fp_cp_c, fp_g_s, Nat.reduceBEq, Int.reduceAdd, Int.reduceSub, Int.reduceNeg, Int.reduceMul])))
      | (refine And.intro (by simp [fp_rg, fp_up, fp_cp] <;> omega) ?_; (conv => whnf); (try simp only [Int.reduceToNat, Int.toNat_natCast, fp_up_c, fp_up_s, fp_up_i, fp_cp_c, fp_g_s, Nat.reduceBEq, Int.reduceAdd, Int.reduceSub, Int.reduceNeg, Int.reduceMul]))
      | fail)
  all_goals first | exact h0 (by omega) | exact h1 (by omega)
set_option maxHeartbeats 600000 in
set_option maxRecDepth 100000 in
theorem sp_shas {L d g : Nat} {a : Int} {H : FpH} {Q : FpQ} (h1 : 0 ≤ a ∧ a < H g 6 2 → Q (some (.inl 1)) H) (h0 : ¬ (0 ≤ a ∧ a < H g 6 2) → Q (some (.inl 0)) H) : fp_Wp L d 45 0 (fp_en 45 [.inr (g, 6), .inl a]) [] H Q := by
  refine fp_go 1000 [] (fun KN KC hN hC => ?_)
  conv => whnf
  (try simp only [Int.reduceToNat, Int.toNat_natCast, fp_up_c, fp_up_s, fp_up_i, fp_cp_c, fp_g_s, Nat.reduceBEq, Int.reduceAdd, Int.reduceSub, Int.reduceNeg, Int.reduceMul])
  (repeat' first
      | (refine And.intro (by first | omega | (unfold fp_rg; omega)) ?_; (try intro _); (conv => whnf); (try simp only [Int.reduceToNat, Int.toNat_natCast, fp_up_c, fp_up_s, fp_up_i, fp_cp_c, fp_g_s, Nat.reduceBEq, Int.reduceAdd, Int.reduceSub, Int.reduceNeg, Int.reduceMul]))
      | (refine And.intro (fun _ => ?_) (fun _ => ?_) <;> first | (exfalso; omega) | (rename_i hz_; exact absurd trivial hz_) | ((conv => whnf); (try simp only [Int.reduceToNat, Int.toNat_natCast, fp_up_c, fp_up_s, fp_up_i, fp_cp_c, fp_g_s, Nat.reduceBEq, Int.reduceAdd, Int.reduceSub, Int.reduceNeg, Int.reduceMul])))
      | (refine And.intro (by simp [fp_rg, fp_up, fp_cp] <;> omega) ?_; (conv => whnf); (try simp only [Int.reduceToNat, Int.toNat_natCast, fp_up_c, fp_up_s, fp_up_i, fp_cp_c, fp_g_s, Nat.reduceBEq, Int.reduceAdd, Int.reduceSub, Int.reduceNeg, Int.reduceMul]))
      | fail)
  all_goals first | exact h0 (by omega) | exact h1 (by omega)
set_option maxHeartbeats 600000 in
set_option maxRecDepth 100000 in
theorem sp_lfull {L d g : Nat} {H : FpH} {Q : FpQ} (h1 : 12 ≤ H g 9 3 → Q (some (.inl 1)) H) (h0 : ¬ (12 ≤ H g 9 3) → Q (some (.inl 0)) H) : fp_Wp L d 5 0 (fp_en 5 [.inr (g, 9)]) [] H Q := by
  refine fp_go 1000 [] (fun KN KC hN hC => ?_)
  conv => whnf
  (try simp only [Int.reduceToNat, Int.toNat_natCast, fp_up_c, fp_up_s, fp_up_i, fp_cp_c, fp_g_s, Nat.reduceBEq, Int.reduceAdd, Int.reduceSub, Int.reduceNeg, Int.reduceMul])
  (repeat' first
      | (refine And.intro (by first | omega | (unfold fp_rg; omega)) ?_; (try intro _); (conv => whnf); (try simp only [Int.reduceToNat, Int.toNat_natCast, fp_up_c, fp_up_s, fp_up_i, fp_cp_c, fp_g_s, Nat.reduceBEq, Int.reduceAdd, Int.reduceSub, Int.reduceNeg, Int.reduceMul]))
      | (refine And.intro (fun _ => ?_) (fun _ => ?_) <;> first | (exfalso; omega) | (rename_i hz_; exact absurd trivial hz_) | ((conv => whnf); (try simp only [Int.reduceToNat, Int.toNat_natCast, fp_up_c, fp_up_s, fp_up_i, fp_cp_c, fp_g_s, Nat.reduceBEq, Int.reduceAdd, Int.reduceSub, Int.reduceNeg, Int.reduceMul])))
      | (refine And.intro (by simp [fp_rg, fp_up, fp_cp] <;> omega) ?_; (conv => whnf); (try simp only [Int.reduceToNat, Int.toNat_natCast, fp_up_c, fp_up_s, fp_up_i, fp_cp_c, fp_g_s, Nat.reduceBEq, Int.reduceAdd, Int.reduceSub, Int.reduceNeg, Int.reduceMul]))
      | fail)
  all_goals first | exact h0 (by omega) | exact h1 (by omega)
set_option maxHeartbeats 600000 in
set_option maxRecDepth 100000 in
theorem sp_pfull {L d g : Nat} {H : FpH} {Q : FpQ} (h1 : 10 ≤ H g 1 4 → Q (some (.inl 1)) H) (h0 : ¬ (10 ≤ H g 1 4) → Q (some (.inl 0)) H) : fp_Wp L d 13 0 (fp_en 13 [.inr (g, 1)]) [] H Q := by
  refine fp_go 1000 [] (fun KN KC hN hC => ?_)
  conv => whnf
  (try simp only [Int.reduceToNat, Int.toNat_natCast, fp_up_c, fp_up_s, fp_up_i, fp_cp_c, fp_g_s, Nat.reduceBEq, Int.reduceAdd, Int.reduceSub, Int.reduceNeg, Int.reduceMul])
  (repeat' first
      | (refine And.intro (by first | omega | (unfold fp_rg; omega)) ?_; (try intro _); (conv => whnf); (try simp only [Int.reduceToNat, Int.toNat_natCast, fp_up_c, fp_up_s, fp_up_i, fp_cp_c, fp_g_s, Nat.reduceBEq, Int.reduceAdd, Int.reduceSub, Int.reduceNeg, Int.reduceMul]))
      | (refine And.intro (fun _ => ?_) (fun _ => ?_) <;> first | (exfalso; omega) | (rename_i hz_; exact absurd trivial hz_) | ((conv => whnf); (try simp only [Int.reduceToNat, Int.toNat_natCast, fp_up_c, fp_up_s, fp_up_i, fp_cp_c, fp_g_s, Nat.reduceBEq, Int.reduceAdd, Int.reduceSub, Int.reduceNeg, Int.reduceMul])))
      | (refine And.intro (by simp [fp_rg, fp_up, fp_cp] <;> omega) ?_; (conv => whnf); (try simp only [Int.reduceToNat, Int.toNat_natCast, fp_up_c, fp_up_s, fp_up_i, fp_cp_c, fp_g_s, Nat.reduceBEq, Int.reduceAdd, Int.reduceSub, Int.reduceNeg, Int.reduceMul]))
      | fail)
  all_goals first | exact h0 (by omega) | exact h1 (by omega)
set_option maxHeartbeats 600000 in
set_option maxRecDepth 100000 in
theorem sp_sfull {L d g : Nat} {H : FpH} {Q : FpQ} (h1 : 6 ≤ H g 6 2 → Q (some (.inl 1)) H) (h0 : ¬ (6 ≤ H g 6 2) → Q (some (.inl 0)) H) : fp_Wp L d 46 0 (fp_en 46 [.inr (g, 6)]) [] H Q := by
  refine fp_go 1000 [] (fun KN KC hN hC => ?_)
  conv => whnf
  (try simp only [Int.reduceToNat, Int.toNat_natCast, fp_up_c, fp_up_s, fp_up_i, fp_cp_c, fp_g_s, Nat.reduceBEq, Int.reduceAdd, Int.reduceSub, Int.reduceNeg, Int.reduceMul])
  (repeat' first
      | (refine And.intro (by first | omega | (unfold fp_rg; omega)) ?_; (try intro _); (conv => whnf); (try simp only [Int.reduceToNat, Int.toNat_natCast, fp_up_c, fp_up_s, fp_up_i, fp_cp_c, fp_g_s, Nat.reduceBEq, Int.reduceAdd, Int.reduceSub, Int.reduceNeg, Int.reduceMul]))
      | (refine And.intro (fun _ => ?_) (fun _ => ?_) <;> first | (exfalso; omega) | (rename_i hz_; exact absurd trivial hz_) | ((conv => whnf); (try simp only [Int.reduceToNat, Int.toNat_natCast, fp_up_c, fp_up_s, fp_up_i, fp_cp_c, fp_g_s, Nat.reduceBEq, Int.reduceAdd, Int.reduceSub, Int.reduceNeg, Int.reduceMul])))
      | (refine And.intro (by simp [fp_rg, fp_up, fp_cp] <;> omega) ?_; (conv => whnf); (try simp only [Int.reduceToNat, Int.toNat_natCast, fp_up_c, fp_up_s, fp_up_i, fp_cp_c, fp_g_s, Nat.reduceBEq, Int.reduceAdd, Int.reduceSub, Int.reduceNeg, Int.reduceMul]))
      | fail)
  all_goals first | exact h0 (by omega) | exact h1 (by omega)
end
section
/-! the line of sitters -/
def fp_lrem (G : FpG) (k : Nat) : FpG := fun c i => if c = 9 ∧ i = 3 then G 9 3 - 1 else if (c = 10 ∨ c = 11 ∨ c = 12) ∧ k ≤ i ∧ (i : Int) + 1 < G 9 3 then G c (i + 1) else G c i
def fp_ladd (G : FpG) (p w t : Int) : FpG := fun c i => if c = 9 ∧ i = 3 then G 9 3 + 1 else if (i : Int) = G 9 3 then (if c = 10 then p else if c = 11 then w else if c = 12 then t else G c i) else G c i
set_option maxHeartbeats 600000 in
set_option maxRecDepth 100000 in
theorem sp_remove {L d g t : Nat} {H : FpH} {Q : FpQ} (h : (t : Int) < H g 9 3 ∧ H g 9 3 ≤ 12) (hq : Q none (fp_g H g (fp_lrem (H g) t))) : fp_Wp L d 7 0 (fp_en 7 [.inr (g, 9), .inl (t : Int)]) [] H Q := by
  refine fp_go 1000 [] (fun KN KC hN hC => ?_)
  conv => whnf
  (try simp only [Int.reduceToNat, Int.toNat_natCast, fp_up_c, fp_up_s, fp_up_i, fp_cp_c, fp_g_s, Nat.reduceBEq, Int.reduceAdd, Int.reduceSub, Int.reduceNeg, Int.reduceMul])
  (repeat' first
      | (refine And.intro (by first | omega | (unfold fp_rg; omega)) ?_; (try intro _); (conv => whnf); (try simp only [Int.reduceToNat, Int.toNat_natCast, fp_up_c, fp_up_s, fp_up_i, fp_cp_c, fp_g_s, Nat.reduceBEq, Int.reduceAdd, Int.reduceSub, Int.reduceNeg, Int.reduceMul]))
      | (refine And.intro (fun _ => ?_) (fun _ => ?_) <;> first | (exfalso; omega) | (rename_i hz_; exact absurd trivial hz_) | ((conv => whnf); (try simp only [Int.reduceToNat, Int.toNat_natCast, fp_up_c, fp_up_s, fp_up_i, fp_cp_c, fp_g_s, Nat.reduceBEq, Int.reduceAdd, Int.reduceSub, Int.reduceNeg, Int.reduceMul])))
      | (refine And.intro (by simp [fp_rg, fp_up, fp_cp] <;> omega) ?_; (conv => whnf); (try simp only [Int.reduceToNat, Int.toNat_natCast, fp_up_c, fp_up_s, fp_up_i, fp_cp_c, fp_g_s, Nat.reduceBEq, Int.reduceAdd, Int.reduceSub, Int.reduceNeg, Int.reduceMul]))
      | fail)
  refine fp_eqQ hq ?_
  refine fp_hext (fun x hx y z => ?_) (fun y z => ?_)
  · simp [fp_up, fp_cp, fp_g, hx]
  · simp only [fp_up, fp_cp, fp_g, true_and, if_true, fp_lrem]
    grind
set_option maxHeartbeats 600000 in
set_option maxRecDepth 100000 in
theorem sp_ladd {L d g : Nat} {p w t : Int} {H : FpH} {Q : FpQ} (h : 0 ≤ H g 9 3 ∧ H g 9 3 < 12) (hq : Q (some (.inl (H g 9 3 + 1))) (fp_g H g (fp_ladd (H g) p w t))) : fp_Wp L d 6 0 (fp_en 6 [.inr (g, 9), .inl p, .inl w, .inl t]) [] H Q := by
  refine fp_go 1000 [] (fun KN KC hN hC => ?_)
  conv => whnf
  (try simp only [Int.reduceToNat, Int.toNat_natCast, fp_up_c, fp_up_s, fp_up_i, fp_cp_c, fp_g_s, Nat.reduceBEq, Int.reduceAdd, Int.reduceSub, Int.reduceNeg, Int.reduceMul])
  (repeat' first
      | (refine And.intro (by first | omega | (unfold fp_rg; omega)) ?_; (try intro _); (conv => whnf); (try simp only [Int.reduceToNat, Int.toNat_natCast, fp_up_c, fp_up_s, fp_up_i, fp_cp_c, fp_g_s, Nat.reduceBEq, Int.reduceAdd, Int.reduceSub, Int.reduceNeg, Int.reduceMul]))
      | (refine And.intro (fun _ => ?_) (fun _ => ?_) <;> first | (exfalso; omega) | (rename_i hz_; exact absurd trivial hz_) | ((conv => whnf); (try simp only [Int.reduceToNat, Int.toNat_natCast, fp_up_c, fp_up_s, fp_up_i, fp_cp_c, fp_g_s, Nat.reduceBEq, Int.reduceAdd, Int.reduceSub, Int.reduceNeg, Int.reduceMul])))
      | (refine And.intro (by simp [fp_rg, fp_up, fp_cp] <;> omega) ?_; (conv => whnf); (try simp only [Int.reduceToNat, Int.toNat_natCast, fp_up_c, fp_up_s, fp_up_i, fp_cp_c, fp_g_s, Nat.reduceBEq, Int.reduceAdd, Int.reduceSub, Int.reduceNeg, Int.reduceMul]))
      | fail)
  refine fp_eqQ hq ?_
  refine fp_hext (fun x hx y z => ?_) (fun y z => ?_)
  · simp [fp_up, fp_cp, fp_g, hx]
  · simp only [fp_up, fp_cp, fp_g, true_and, if_true, fp_ladd]
    grind
def fp_lose (tk : Int) : Nat → FpG → FpG
  | 0, G => G
  | n + 1, G => if G 12 n - tk ≤ 0 then fp_lose tk n (fp_lrem (fp_gu G 12 n (G 12 n - tk)) n) else fp_lose tk n (fp_gu G 12 n (G 12 n - tk))
set_option maxHeartbeats 600000 in
set_option maxRecDepth 100000 in
theorem lp_lose {L d g : Nat} {tk bf : Int} {Q : FpQ} (htk : 1 ≤ tk ∧ tk ≤ 4) (hbf : 0 ≤ bf ∧ bf ≤ 12) : ∀ (n : Nat) (H : FpH) (i : Int), i = (n : Int) - 1 → (n : Int) ≤ H g 9 3 → H g 9 3 ≤ 12 → (∀ t, t < n → 1 ≤ H g 12 t ∧ H g 12 t ≤ 99) → Q (some (.inl (bf - fp_lose tk n (H g) 9 3))) (fp_g H g (fp_lose tk n (H g))) → fp_Wp L (d + 1) 8 12 [some (.inr (g, 9)), some (.inl tk), some (.inl bf), some (.inl i)] [] H Q := by
  intro n
  induction n with
  | zero =>
    intro H i hi h1 h2 h3 hq
    refine fp_go 1000 [12] (fun KN KC hN hC => ?_)
    conv => whnf
    (try simp only [Int.reduceToNat, Int.toNat_natCast, fp_up_c, fp_up_s, fp_up_i, fp_cp_c, fp_g_s, Nat.reduceBEq, Int.reduceAdd, Int.reduceSub, Int.reduceNeg, Int.reduceMul])
    (repeat' first
        | (refine And.intro (by first | omega | (unfold fp_rg; omega)) ?_; (try intro _); (conv => whnf); (try simp only [Int.reduceToNat, Int.toNat_natCast, fp_up_c, fp_up_s, fp_up_i, fp_cp_c, fp_g_s, Nat.reduceBEq, Int.reduceAdd, Int.reduceSub, Int.reduceNeg, Int.reduceMul]))
        | (refine And.intro (fun _ => ?_) (fun _ => ?_) <;> first | (exfalso; omega) | (rename_i hz_; exact absurd trivial hz_) | ((conv => whnf); (try simp only [Int.reduceToNat, Int.toNat_natCast, fp_up_c, fp_up_s, fp_up_i, fp_cp_c, fp_g_s, Nat.reduceBEq, Int.reduceAdd, Int.reduceSub, Int.reduceNeg, Int.reduceMul])))
        | (refine And.intro (by simp [fp_rg, fp_up, fp_cp] <;> omega) ?_; (conv => whnf); (try simp only [Int.reduceToNat, Int.toNat_natCast, fp_up_c, fp_up_s, fp_up_i, fp_cp_c, fp_g_s, Nat.reduceBEq, Int.reduceAdd, Int.reduceSub, Int.reduceNeg, Int.reduceMul]))
        | fail)
    simpa [fp_lose, fp_g_i] using hq
  | succ n ih =>
    intro H i hi h1 h2 h3 hq
    have hn := h3 n (by omega)
    obtain rfl : i = (n : Int) := by omega
    refine fp_go 1000 [12] (fun KN KC hN hC => ?_)
    conv => whnf
    (try simp only [Int.reduceToNat, Int.toNat_natCast, fp_up_c, fp_up_s, fp_up_i, fp_cp_c, fp_g_s, Nat.reduceBEq, Int.reduceAdd, Int.reduceSub, Int.reduceNeg, Int.reduceMul])
    (repeat' first
        | (refine And.intro (by first | omega | (unfold fp_rg; omega)) ?_; (try intro _); (conv => whnf); (try simp only [Int.reduceToNat, Int.toNat_natCast, fp_up_c, fp_up_s, fp_up_i, fp_cp_c, fp_g_s, Nat.reduceBEq, Int.reduceAdd, Int.reduceSub, Int.reduceNeg, Int.reduceMul]))
        | (refine And.intro (fun _ => ?_) (fun _ => ?_) <;> first | (exfalso; omega) | (rename_i hz_; exact absurd trivial hz_) | ((conv => whnf); (try simp only [Int.reduceToNat, Int.toNat_natCast, fp_up_c, fp_up_s, fp_up_i, fp_cp_c, fp_g_s, Nat.reduceBEq, Int.reduceAdd, Int.reduceSub, Int.reduceNeg, Int.reduceMul])))
        | (refine And.intro (by simp [fp_rg, fp_up, fp_cp] <;> omega) ?_; (conv => whnf); (try simp only [Int.reduceToNat, Int.toNat_natCast, fp_up_c, fp_up_s, fp_up_i, fp_cp_c, fp_g_s, Nat.reduceBEq, Int.reduceAdd, Int.reduceSub, Int.reduceNeg, Int.reduceMul]))
        | fail)
    · rename_i hb
      rw [fp_lose, if_neg (by omega)] at hq
      refine hN _ _ _ _ (ih _ _ (by omega) (by simp [fp_up]; omega) (by simp [fp_up]; omega) (fun t ht => by simp [fp_up, show t ≠ n by omega]; exact h3 t (by omega)) ?_)
      simpa [fp_up_g, fp_g_s, fp_g_g] using hq
    · rename_i hb
      rw [fp_lose, if_pos (by omega)] at hq
      refine hC _ _ _ _ ⟨_, rfl, ?_⟩
      refine sp_remove ⟨by simp [fp_up]; omega, by simp [fp_up]; omega⟩ ?_
      conv => whnf
      (try simp only [Int.reduceToNat, Int.toNat_natCast, fp_up_c, fp_up_s, fp_up_i, fp_cp_c, fp_g_s, Nat.reduceBEq, Int.reduceAdd, Int.reduceSub, Int.reduceNeg, Int.reduceMul])
      (repeat' first
          | (refine And.intro (by first | omega | (unfold fp_rg; omega)) ?_; (try intro _); (conv => whnf); (try simp only [Int.reduceToNat, Int.toNat_natCast, fp_up_c, fp_up_s, fp_up_i, fp_cp_c, fp_g_s, Nat.reduceBEq, Int.reduceAdd, Int.reduceSub, Int.reduceNeg, Int.reduceMul]))
          | (refine And.intro (fun _ => ?_) (fun _ => ?_) <;> first | (exfalso; omega) | (rename_i hz_; exact absurd trivial hz_) | ((conv => whnf); (try simp only [Int.reduceToNat, Int.toNat_natCast, fp_up_c, fp_up_s, fp_up_i, fp_cp_c, fp_g_s, Nat.reduceBEq, Int.reduceAdd, Int.reduceSub, Int.reduceNeg, Int.reduceMul])))
          | (refine And.intro (by simp [fp_rg, fp_up, fp_cp] <;> omega) ?_; (conv => whnf); (try simp only [Int.reduceToNat, Int.toNat_natCast, fp_up_c, fp_up_s, fp_up_i, fp_cp_c, fp_g_s, Nat.reduceBEq, Int.reduceAdd, Int.reduceSub, Int.reduceNeg, Int.reduceMul]))
          | fail)
      refine hN _ _ _ _ (ih _ _ (by omega) (by simp [fp_up, fp_g_s, fp_lrem]; omega) (by simp [fp_up, fp_g_s, fp_lrem]; omega) (fun t ht => ?_) ?_)
      · have := h3 t (by omega)
        simp [fp_up, fp_g_s, fp_lrem, show t ≠ n by omega, show ¬ n ≤ t by omega]
        exact this
      · simpa [fp_up_g, fp_g_s, fp_g_g] using hq
set_option maxHeartbeats 600000 in
set_option maxRecDepth 100000 in
theorem sp_loseOver {L d g : Nat} {tk : Int} {H : FpH} {Q : FpQ} (htk : 1 ≤ tk ∧ tk ≤ 4) (h : 0 ≤ H g 9 3 ∧ H g 9 3 ≤ 12) (hp : ∀ t : Nat, (t : Int) < H g 9 3 → 1 ≤ H g 12 t ∧ H g 12 t ≤ 99) (hq : Q (some (.inl (H g 9 3 - fp_lose tk (H g 9 3).toNat (H g) 9 3))) (fp_g H g (fp_lose tk (H g 9 3).toNat (H g)))) : fp_Wp L (d + 1) 8 0 (fp_en 8 [.inr (g, 9), .inl tk]) [] H Q := by
  refine fp_go 1000 [12] (fun KN KC hN hC => ?_)
  conv => whnf
  (try simp only [Int.reduceToNat, Int.toNat_natCast, fp_up_c, fp_up_s, fp_up_i, fp_cp_c, fp_g_s, Nat.reduceBEq, Int.reduceAdd, Int.reduceSub, Int.reduceNeg, Int.reduceMul])
  (repeat' first
      | (refine And.intro (by first | omega | (unfold fp_rg; omega)) ?_; (try intro _); (conv => whnf); (try simp only [Int.reduceToNat, Int.toNat_natCast, fp_up_c, fp_up_s, fp_up_i, fp_cp_c, fp_g_s, Nat.reduceBEq, Int.reduceAdd, Int.reduceSub, Int.reduceNeg, Int.reduceMul]))
      | (refine And.intro (fun _ => ?_) (fun _ => ?_) <;> first | (exfalso; omega) | (rename_i hz_; exact absurd trivial hz_) | ((conv => whnf); (try simp only [Int.reduceToNat, Int.toNat_natCast, fp_up_c, fp_up_s, fp_up_i, fp_cp_c, fp_g_s, Nat.reduceBEq, Int.reduceAdd, Int.reduceSub, Int.reduceNeg, Int.reduceMul])))
      | (refine And.intro (by simp [fp_rg, fp_up, fp_cp] <;> omega) ?_; (conv => whnf); (try simp only [Int.reduceToNat, Int.toNat_natCast, fp_up_c, fp_up_s, fp_up_i, fp_cp_c, fp_g_s, Nat.reduceBEq, Int.reduceAdd, Int.reduceSub, Int.reduceNeg, Int.reduceMul]))
      | fail)
  exact hN _ _ _ _ (lp_lose htk h (H g 9 3).toNat H _ (by omega) (by omega) h.2 (fun t ht => hp t (by omega)) hq)
def fp_ct (f : Nat → Bool) : Nat → Int
  | 0 => 0
  | n + 1 => fp_ct f n + (if f n = true then 1 else 0)
theorem fp_ct_le (f : Nat → Bool) : ∀ n, 0 ≤ fp_ct f n ∧ fp_ct f n ≤ n
  | 0 => by simp [fp_ct]
  | n + 1 => by
    have := fp_ct_le f n
    simp only [fp_ct]
    split <;> omega
theorem fp_ct_s {f : Nat → Bool} {i : Int} (h : 0 ≤ i) : fp_ct f (i + 1).toNat = fp_ct f i.toNat + (if f i.toNat = true then 1 else 0) := by
  rw [show (i + 1).toNat = i.toNat + 1 by omega]; rfl
theorem fp_ct_t {f : Nat → Bool} {i : Int} (h : 0 ≤ i) (hf : f i.toNat = true) : fp_ct f i.toNat + 1 = fp_ct f (i + 1).toNat := by rw [fp_ct_s h, if_pos hf]
theorem fp_ct_f {f : Nat → Bool} {i : Int} (h : 0 ≤ i) (hf : f i.toNat = false) : fp_ct f i.toNat = fp_ct f (i + 1).toNat := by rw [fp_ct_s h, if_neg (by simp [hf])]; omega
set_option maxHeartbeats 600000 in
set_option maxRecDepth 100000 in
theorem lp_countOf {L d g : Nat} {a : Int} {H : FpH} {Q : FpQ} (h : 0 ≤ H g 9 3 ∧ H g 9 3 ≤ 12) (hq : Q (some (.inl (fp_ct (fun t => decide (H g 10 t = a)) (H g 9 3).toNat))) H) : ∀ (m : Nat) (i fd : Int), 0 ≤ i → i + m = H g 9 3 → fd = fp_ct (fun t => decide (H g 10 t = a)) i.toNat → fp_Wp L d 9 4 [some (.inr (g, 9)), some (.inl a), some (.inl fd), some (.inl i)] [] H Q := by
  intro m
  induction m with
  | zero =>
    intro i fd h0 hi hf
    refine fp_go 1000 [4] (fun KN KC hN hC => ?_)
    conv => whnf
    (try simp only [Int.reduceToNat, Int.toNat_natCast, fp_up_c, fp_up_s, fp_up_i, fp_cp_c, fp_g_s, Nat.reduceBEq, Int.reduceAdd, Int.reduceSub, Int.reduceNeg, Int.reduceMul])
    (repeat' first
        | (refine And.intro (by first | omega | (unfold fp_rg; omega)) ?_; (try intro _); (conv => whnf); (try simp only [Int.reduceToNat, Int.toNat_natCast, fp_up_c, fp_up_s, fp_up_i, fp_cp_c, fp_g_s, Nat.reduceBEq, Int.reduceAdd, Int.reduceSub, Int.reduceNeg, Int.reduceMul]))
        | (refine And.intro (fun _ => ?_) (fun _ => ?_) <;> first | (exfalso; omega) | (rename_i hz_; exact absurd trivial hz_) | ((conv => whnf); (try simp only [Int.reduceToNat, Int.toNat_natCast, fp_up_c, fp_up_s, fp_up_i, fp_cp_c, fp_g_s, Nat.reduceBEq, Int.reduceAdd, Int.reduceSub, Int.reduceNeg, Int.reduceMul])))
        | (refine And.intro (by simp [fp_rg, fp_up, fp_cp] <;> omega) ?_; (conv => whnf); (try simp only [Int.reduceToNat, Int.toNat_natCast, fp_up_c, fp_up_s, fp_up_i, fp_cp_c, fp_g_s, Nat.reduceBEq, Int.reduceAdd, Int.reduceSub, Int.reduceNeg, Int.reduceMul]))
        | fail)
    rw [hf, show i = H g 9 3 by omega]; exact hq
  | succ m ih =>
    intro i fd h0 hi hf
    have hle := fp_ct_le (fun t => decide (H g 10 t = a)) i.toNat
    refine fp_go 1000 [4] (fun KN KC hN hC => ?_)
    conv => whnf
    (try simp only [Int.reduceToNat, Int.toNat_natCast, fp_up_c, fp_up_s, fp_up_i, fp_cp_c, fp_g_s, Nat.reduceBEq, Int.reduceAdd, Int.reduceSub, Int.reduceNeg, Int.reduceMul])
    (repeat' first
        | (refine And.intro (by first | omega | (unfold fp_rg; omega)) ?_; (try intro _); (conv => whnf); (try simp only [Int.reduceToNat, Int.toNat_natCast, fp_up_c, fp_up_s, fp_up_i, fp_cp_c, fp_g_s, Nat.reduceBEq, Int.reduceAdd, Int.reduceSub, Int.reduceNeg, Int.reduceMul]))
        | (refine And.intro (fun _ => ?_) (fun _ => ?_) <;> first | (exfalso; omega) | (rename_i hz_; exact absurd trivial hz_) | ((conv => whnf); (try simp only [Int.reduceToNat, Int.toNat_natCast, fp_up_c, fp_up_s, fp_up_i, fp_cp_c, fp_g_s, Nat.reduceBEq, Int.reduceAdd, Int.reduceSub, Int.reduceNeg, Int.reduceMul])))
        | (refine And.intro (by simp [fp_rg, fp_up, fp_cp] <;> omega) ?_; (conv => whnf); (try simp only [Int.reduceToNat, Int.toNat_natCast, fp_up_c, fp_up_s, fp_up_i, fp_cp_c, fp_g_s, Nat.reduceBEq, Int.reduceAdd, Int.reduceSub, Int.reduceNeg, Int.reduceMul]))
        | fail)
    · rename_i hb
      exact hN _ _ _ _ (ih _ _ (by omega) (by omega) (by rw [hf]; exact fp_ct_t h0 (by simp [hb])))
    · rename_i hb
      exact hN _ _ _ _ (ih _ _ (by omega) (by omega) (by rw [hf]; exact fp_ct_f h0 (by simp [hb])))
set_option maxHeartbeats 600000 in
set_option maxRecDepth 100000 in
theorem sp_countOf {L d g : Nat} {a : Int} {H : FpH} {Q : FpQ} (h : 0 ≤ H g 9 3 ∧ H g 9 3 ≤ 12) (hq : Q (some (.inl (fp_ct (fun t => decide (H g 10 t = a)) (H g 9 3).toNat))) H) : fp_Wp L d 9 0 (fp_en 9 [.inr (g, 9), .inl a]) [] H Q := by
  refine fp_go 1000 [4] (fun KN KC hN hC => ?_)
  conv => whnf
  (try simp only [Int.reduceToNat, Int.toNat_natCast, fp_up_c, fp_up_s, fp_up_i, fp_cp_c, fp_g_s, Nat.reduceBEq, Int.reduceAdd, Int.reduceSub, Int.reduceNeg, Int.reduceMul])
  (repeat' first
      | (refine And.intro (by first | omega | (unfold fp_rg; omega)) ?_; (try intro _); (conv => whnf); (try simp only [Int.reduceToNat, Int.toNat_natCast, fp_up_c, fp_up_s, fp_up_i, fp_cp_c, fp_g_s, Nat.reduceBEq, Int.reduceAdd, Int.reduceSub, Int.reduceNeg, Int.reduceMul]))
      | (refine And.intro (fun _ => ?_) (fun _ => ?_) <;> first | (exfalso; omega) | (rename_i hz_; exact absurd trivial hz_) | ((conv => whnf); (try simp only [Int.reduceToNat, Int.toNat_natCast, fp_up_c, fp_up_s, fp_up_i, fp_cp_c, fp_g_s, Nat.reduceBEq, Int.reduceAdd, Int.reduceSub, Int.reduceNeg, Int.reduceMul])))
      | (refine And.intro (by simp [fp_rg, fp_up, fp_cp] <;> omega) ?_; (conv => whnf); (try simp only [Int.reduceToNat, Int.toNat_natCast, fp_up_c, fp_up_s, fp_up_i, fp_cp_c, fp_g_s, Nat.reduceBEq, Int.reduceAdd, Int.reduceSub, Int.reduceNeg, Int.reduceMul]))
      | fail)
  exact hN _ _ _ _ (lp_countOf h hq (H g 9 3).toNat 0 0 (by omega) (by omega) rfl)
set_option maxHeartbeats 600000 in
set_option maxRecDepth 100000 in
theorem lp_countOfSide {L d g : Nat} {a sd : Int} {H : FpH} {Q : FpQ} (h : 0 ≤ H g 9 3 ∧ H g 9 3 ≤ 12) (hq : Q (some (.inl (fp_ct (fun t => decide ((H g 11 t = sd ∨ H g 11 t = 2) ∧ H g 10 t = a)) (H g 9 3).toNat))) H) : ∀ (m : Nat) (i fd : Int) (l5 : Option FpV), 0 ≤ i → i + m = H g 9 3 → fd = fp_ct (fun t => decide ((H g 11 t = sd ∨ H g 11 t = 2) ∧ H g 10 t = a)) i.toNat → fp_Wp L d 10 5 [some (.inr (g, 9)), some (.inl a), some (.inl sd), some (.inl fd), some (.inl i), l5] [] H Q := by
  intro m
  induction m with
  | zero =>
    intro i fd l5 h0 hi hf
    refine fp_go 1000 [5] (fun KN KC hN hC => ?_)
    conv => whnf
    (try simp only [Int.reduceToNat, Int.toNat_natCast, fp_up_c, fp_up_s, fp_up_i, fp_cp_c, fp_g_s, Nat.reduceBEq, Int.reduceAdd, Int.reduceSub, Int.reduceNeg, Int.reduceMul])
    (repeat' first
        | (refine And.intro (by first | omega | (unfold fp_rg; omega)) ?_; (try intro _); (conv => whnf); (try simp only [Int.reduceToNat, Int.toNat_natCast, fp_up_c, fp_up_s, fp_up_i, fp_cp_c, fp_g_s, Nat.reduceBEq, Int.reduceAdd, Int.reduceSub, Int.reduceNeg, Int.reduceMul]))
        | (refine And.intro (fun _ => ?_) (fun _ => ?_) <;> first | (exfalso; omega) | (rename_i hz_; exact absurd trivial hz_) | ((conv => whnf); (try simp only [Int.reduceToNat, Int.toNat_natCast, fp_up_c, fp_up_s, fp_up_i, fp_cp_c, fp_g_s, Nat.reduceBEq, Int.reduceAdd, Int.reduceSub, Int.reduceNeg, Int.reduceMul])))
        | (refine And.intro (by simp [fp_rg, fp_up, fp_cp] <;> omega) ?_; (conv => whnf); (try simp only [Int.reduceToNat, Int.toNat_natCast, fp_up_c, fp_up_s, fp_up_i, fp_cp_c, fp_g_s, Nat.reduceBEq, Int.reduceAdd, Int.reduceSub, Int.reduceNeg, Int.reduceMul]))
        | fail)
    rw [hf, show i = H g 9 3 by omega]; exact hq
  | succ m ih =>
    intro i fd l5 h0 hi hf
    have hle := fp_ct_le (fun t => decide ((H g 11 t = sd ∨ H g 11 t = 2) ∧ H g 10 t = a)) i.toNat
    refine fp_go 1000 [5] (fun KN KC hN hC => ?_)
    conv => whnf
    (try simp only [Int.reduceToNat, Int.toNat_natCast, fp_up_c, fp_up_s, fp_up_i, fp_cp_c, fp_g_s, Nat.reduceBEq, Int.reduceAdd, Int.reduceSub, Int.reduceNeg, Int.reduceMul])
    (repeat' first
        | (refine And.intro (by first | omega | (unfold fp_rg; omega)) ?_; (try intro _); (conv => whnf); (try simp only [Int.reduceToNat, Int.toNat_natCast, fp_up_c, fp_up_s, fp_up_i, fp_cp_c, fp_g_s, Nat.reduceBEq, Int.reduceAdd, Int.reduceSub, Int.reduceNeg, Int.reduceMul]))
        | (refine And.intro (fun _ => ?_) (fun _ => ?_) <;> first | (exfalso; omega) | (rename_i hz_; exact absurd trivial hz_) | ((conv => whnf); (try simp only [Int.reduceToNat, Int.toNat_natCast, fp_up_c, fp_up_s, fp_up_i, fp_cp_c, fp_g_s, Nat.reduceBEq, Int.reduceAdd, Int.reduceSub, Int.reduceNeg, Int.reduceMul])))
        | (refine And.intro (by simp [fp_rg, fp_up, fp_cp] <;> omega) ?_; (conv => whnf); (try simp only [Int.reduceToNat, Int.toNat_natCast, fp_up_c, fp_up_s, fp_up_i, fp_cp_c, fp_g_s, Nat.reduceBEq, Int.reduceAdd, Int.reduceSub, Int.reduceNeg, Int.reduceMul]))
        | fail)
    all_goals first
      | exact hN _ _ _ _ (ih _ _ _ (by omega) (by omega) (by rw [hf]; exact fp_ct_t h0 (decide_eq_true (by omega))))
      | exact hN _ _ _ _ (ih _ _ _ (by omega) (by omega) (by rw [hf]; exact fp_ct_f h0 (decide_eq_false (by omega))))
set_option maxHeartbeats 600000 in
set_option maxRecDepth 100000 in
theorem sp_countOfSide {L d g : Nat} {a sd : Int} {H : FpH} {Q : FpQ} (h : 0 ≤ H g 9 3 ∧ H g 9 3 ≤ 12) (hq : Q (some (.inl (fp_ct (fun t => decide ((H g 11 t = sd ∨ H g 11 t = 2) ∧ H g 10 t = a)) (H g 9 3).toNat))) H) : fp_Wp L d 10 0 (fp_en 10 [.inr (g, 9), .inl a, .inl sd]) [] H Q := by
  refine fp_go 1000 [5] (fun KN KC hN hC => ?_)
  conv => whnf
  (try simp only [Int.reduceToNat, Int.toNat_natCast, fp_up_c, fp_up_s, fp_up_i, fp_cp_c, fp_g_s, Nat.reduceBEq, Int.reduceAdd, Int.reduceSub, Int.reduceNeg, Int.reduceMul])
  (repeat' first
      | (refine And.intro (by first | omega | (unfold fp_rg; omega)) ?_; (try intro _); (conv => whnf); (try simp only [Int.reduceToNat, Int.toNat_natCast, fp_up_c, fp_up_s, fp_up_i, fp_cp_c, fp_g_s, Nat.reduceBEq, Int.reduceAdd, Int.reduceSub, Int.reduceNeg, Int.reduceMul]))
      | (refine And.intro (fun _ => ?_) (fun _ => ?_) <;> first | (exfalso; omega) | (rename_i hz_; exact absurd trivial hz_) | ((conv => whnf); (try simp only [Int.reduceToNat, Int.toNat_natCast, fp_up_c, fp_up_s, fp_up_i, fp_cp_c, fp_g_s, Nat.reduceBEq, Int.reduceAdd, Int.reduceSub, Int.reduceNeg, Int.reduceMul])))
      | (refine And.intro (by simp [fp_rg, fp_up, fp_cp] <;> omega) ?_; (conv => whnf); (try simp only [Int.reduceToNat, Int.toNat_natCast, fp_up_c, fp_up_s, fp_up_i, fp_cp_c, fp_g_s, Nat.reduceBEq, Int.reduceAdd, Int.reduceSub, Int.reduceNeg, Int.reduceMul]))
      | fail)
  exact hN _ _ _ _ (lp_countOfSide h hq (H g 9 3).toNat 0 0 _ (by omega) (by omega) rfl)
end
section
/-! the strips -/
def fp_srem (G : FpG) (k : Nat) : FpG := fun c i => if c = 6 ∧ i = 2 then G 6 2 - 1 else if (c = 7 ∨ c = 8) ∧ k ≤ i ∧ (i : Int) + 1 < G 6 2 then G c (i + 1) else G c i
def fp_sadd (G : FpG) (l t : Int) : FpG := fun c i => if c = 6 ∧ i = 2 then G 6 2 + 1 else if (i : Int) = G 6 2 then (if c = 7 then l else if c = 8 then t else G c i) else G c i
def fp_scut (G : FpG) (k : Nat) (v : Int) : FpG := if G 7 k - v = 0 then fp_srem (fp_gu G 7 k (G 7 k - v)) k else fp_gu G 7 k (G 7 k - v)
def fp_sm (f : Nat → Int) : Nat → Int
  | 0 => 0
  | n + 1 => fp_sm f n + f n
theorem fp_sm_le {f : Nat → Int} {B : Int} : ∀ n : Nat, (∀ i, i < n → 0 ≤ f i ∧ f i ≤ B) → 0 ≤ fp_sm f n ∧ fp_sm f n ≤ n * B
  | 0, _ => by simp [fp_sm]
  | n + 1, h => by
    have h1 := fp_sm_le n (fun i hi => h i (by omega))
    have h2 := h n (by omega)
    simp only [fp_sm]
    have e : ((n + 1 : Nat) : Int) * B = n * B + B := by rw [Int.natCast_add, Int.add_mul]; simp
    rw [e]
    omega
theorem fp_sm_s {f : Nat → Int} {i : Int} (h : 0 ≤ i) : fp_sm f i.toNat + f i.toNat = fp_sm f (i + 1).toNat := by
  rw [show (i + 1).toNat = i.toNat + 1 by omega]; rfl
theorem fp_sm_c {f f' : Nat → Int} : ∀ n : Nat, (∀ i, i < n → f i = f' i) → fp_sm f n = fp_sm f' n
  | 0, _ => rfl
  | n + 1, h => by simp only [fp_sm]; rw [fp_sm_c n (fun i hi => h i (by omega)), h n (by omega)]
set_option maxHeartbeats 600000 in
set_option maxRecDepth 100000 in
theorem sp_srem {L d g t : Nat} {H : FpH} {Q : FpQ} (h : (t : Int) < H g 6 2 ∧ H g 6 2 ≤ 6) (hq : Q none (fp_g H g (fp_srem (H g) t))) : fp_Wp L d 49 0 (fp_en 49 [.inr (g, 6), .inl (t : Int)]) [] H Q := by
  refine fp_go 1000 [] (fun KN KC hN hC => ?_)
  conv => whnf
  (try simp only [Int.reduceToNat, Int.toNat_natCast, fp_up_c, fp_up_s, fp_up_i, fp_cp_c, fp_g_s, Nat.reduceBEq, Int.reduceAdd, Int.reduceSub, Int.reduceNeg, Int.reduceMul])
  (repeat' first
      | (refine And.intro (by first | omega | (unfold fp_rg; omega)) ?_; (try intro _); (conv => whnf); (try simp only [Int.reduceToNat, Int.toNat_natCast, fp_up_c, fp_up_s, fp_up_i, fp_cp_c, fp_g_s, Nat.reduceBEq, Int.reduceAdd, Int.reduceSub, Int.reduceNeg, Int.reduceMul]))
      | (refine And.intro (fun _ => ?_) (fun _ => ?_) <;> first | (exfalso; omega) | (rename_i hz_; exact absurd trivial hz_) | ((conv => whnf); (try simp only [Int.reduceToNat, Int.toNat_natCast, fp_up_c, fp_up_s, fp_up_i, fp_cp_c, fp_g_s, Nat.reduceBEq, Int.reduceAdd, Int.reduceSub, Int.reduceNeg, Int.reduceMul])))
      | (refine And.intro (by simp [fp_rg, fp_up, fp_cp] <;> omega) ?_; (conv => whnf); (try simp only [Int.reduceToNat, Int.toNat_natCast, fp_up_c, fp_up_s, fp_up_i, fp_cp_c, fp_g_s, Nat.reduceBEq, Int.reduceAdd, Int.reduceSub, Int.reduceNeg, Int.reduceMul]))
      | fail)
  refine fp_eqQ hq ?_
  refine fp_hext (fun x hx y z => ?_) (fun y z => ?_)
  · simp [fp_up, fp_cp, fp_g, hx]
  · simp only [fp_up, fp_cp, fp_g, true_and, if_true, fp_srem]
    grind
set_option maxHeartbeats 600000 in
set_option maxRecDepth 100000 in
theorem sp_sadd {L d g : Nat} {l t : Int} {H : FpH} {Q : FpQ} (h : 0 ≤ H g 6 2 ∧ H g 6 2 < 6) (hq : Q (some (.inl (H g 6 2))) (fp_g H g (fp_sadd (H g) l t))) : fp_Wp L d 47 0 (fp_en 47 [.inr (g, 6), .inl l, .inl t]) [] H Q := by
  refine fp_go 1000 [] (fun KN KC hN hC => ?_)
  conv => whnf
  (try simp only [Int.reduceToNat, Int.toNat_natCast, fp_up_c, fp_up_s, fp_up_i, fp_cp_c, fp_g_s, Nat.reduceBEq, Int.reduceAdd, Int.reduceSub, Int.reduceNeg, Int.reduceMul])
  (repeat' first
      | (refine And.intro (by first | omega | (unfold fp_rg; omega)) ?_; (try intro _); (conv => whnf); (try simp only [Int.reduceToNat, Int.toNat_natCast, fp_up_c, fp_up_s, fp_up_i, fp_cp_c, fp_g_s, Nat.reduceBEq, Int.reduceAdd, Int.reduceSub, Int.reduceNeg, Int.reduceMul]))
      | (refine And.intro (fun _ => ?_) (fun _ => ?_) <;> first | (exfalso; omega) | (rename_i hz_; exact absurd trivial hz_) | ((conv => whnf); (try simp only [Int.reduceToNat, Int.toNat_natCast, fp_up_c, fp_up_s, fp_up_i, fp_cp_c, fp_g_s, Nat.reduceBEq, Int.reduceAdd, Int.reduceSub, Int.reduceNeg, Int.reduceMul])))
      | (refine And.intro (by simp [fp_rg, fp_up, fp_cp] <;> omega) ?_; (conv => whnf); (try simp only [Int.reduceToNat, Int.toNat_natCast, fp_up_c, fp_up_s, fp_up_i, fp_cp_c, fp_g_s, Nat.reduceBEq, Int.reduceAdd, Int.reduceSub, Int.reduceNeg, Int.reduceMul]))
      | fail)
  refine fp_eqQ hq ?_
  refine fp_hext (fun x hx y z => ?_) (fun y z => ?_)
  · simp [fp_up, fp_cp, fp_g, hx]
  · simp only [fp_up, fp_cp, fp_g, true_and, if_true, fp_sadd]
    grind
set_option maxHeartbeats 600000 in
set_option maxRecDepth 100000 in
theorem sp_shorten {L d g t : Nat} {v : Int} {H : FpH} {Q : FpQ} (h : (t : Int) < H g 6 2 ∧ H g 6 2 ≤ 6) (hv : 0 ≤ v ∧ v ≤ H g 7 t ∧ H g 7 t ≤ 200) (hq : Q none (fp_g H g (fp_scut (H g) t v))) : fp_Wp L (d + 1) 48 0 (fp_en 48 [.inr (g, 6), .inl (t : Int), .inl v]) [] H Q := by
  unfold fp_scut at hq
  refine fp_go 1000 [] (fun KN KC hN hC => ?_)
  conv => whnf
  (try simp only [Int.reduceToNat, Int.toNat_natCast, fp_up_c, fp_up_s, fp_up_i, fp_cp_c, fp_g_s, Nat.reduceBEq, Int.reduceAdd, Int.reduceSub, Int.reduceNeg, Int.reduceMul])
  (repeat' first
      | (refine And.intro (by first | omega | (unfold fp_rg; omega)) ?_; (try intro _); (conv => whnf); (try simp only [Int.reduceToNat, Int.toNat_natCast, fp_up_c, fp_up_s, fp_up_i, fp_cp_c, fp_g_s, Nat.reduceBEq, Int.reduceAdd, Int.reduceSub, Int.reduceNeg, Int.reduceMul]))
      | (refine And.intro (fun _ => ?_) (fun _ => ?_) <;> first | (exfalso; omega) | (rename_i hz_; exact absurd trivial hz_) | ((conv => whnf); (try simp only [Int.reduceToNat, Int.toNat_natCast, fp_up_c, fp_up_s, fp_up_i, fp_cp_c, fp_g_s, Nat.reduceBEq, Int.reduceAdd, Int.reduceSub, Int.reduceNeg, Int.reduceMul])))
      | (refine And.intro (by simp [fp_rg, fp_up, fp_cp] <;> omega) ?_; (conv => whnf); (try simp only [Int.reduceToNat, Int.toNat_natCast, fp_up_c, fp_up_s, fp_up_i, fp_cp_c, fp_g_s, Nat.reduceBEq, Int.reduceAdd, Int.reduceSub, Int.reduceNeg, Int.reduceMul]))
      | fail)
  · rename_i hb
    rw [if_pos hb] at hq
    refine hC _ _ _ _ ⟨_, rfl, ?_⟩
    refine sp_srem ⟨by simp [fp_up]; omega, by simp [fp_up]; omega⟩ ?_
    conv => whnf
    (try simp only [Int.reduceToNat, Int.toNat_natCast, fp_up_c, fp_up_s, fp_up_i, fp_cp_c, fp_g_s, Nat.reduceBEq, Int.reduceAdd, Int.reduceSub, Int.reduceNeg, Int.reduceMul])
    (repeat' first
        | (refine And.intro (by first | omega | (unfold fp_rg; omega)) ?_; (try intro _); (conv => whnf); (try simp only [Int.reduceToNat, Int.toNat_natCast, fp_up_c, fp_up_s, fp_up_i, fp_cp_c, fp_g_s, Nat.reduceBEq, Int.reduceAdd, Int.reduceSub, Int.reduceNeg, Int.reduceMul]))
        | (refine And.intro (fun _ => ?_) (fun _ => ?_) <;> first | (exfalso; omega) | (rename_i hz_; exact absurd trivial hz_) | ((conv => whnf); (try simp only [Int.reduceToNat, Int.toNat_natCast, fp_up_c, fp_up_s, fp_up_i, fp_cp_c, fp_g_s, Nat.reduceBEq, Int.reduceAdd, Int.reduceSub, Int.reduceNeg, Int.reduceMul])))
        | (refine And.intro (by simp [fp_rg, fp_up, fp_cp] <;> omega) ?_; (conv => whnf); (try simp only [Int.reduceToNat, Int.toNat_natCast, fp_up_c, fp_up_s, fp_up_i, fp_cp_c, fp_g_s, Nat.reduceBEq, Int.reduceAdd, Int.reduceSub, Int.reduceNeg, Int.reduceMul]))
        | fail)
    simpa [fp_up_g, fp_g_s, fp_g_g] using hq
  · rename_i hb
    rw [if_neg hb] at hq
    simpa [fp_up_g] using hq
set_option maxHeartbeats 600000 in
set_option maxRecDepth 100000 in
theorem lp_sumL {L d g : Nat} {H : FpH} {Q : FpQ} (h : 0 ≤ H g 6 2 ∧ H g 6 2 ≤ 6) (hl : ∀ i : Nat, (i : Int) < H g 6 2 → 0 ≤ H g 7 i ∧ H g 7 i ≤ 200) (hq : Q (some (.inl (fp_sm (H g 7) (H g 6 2).toNat))) H) : ∀ (m : Nat) (i fd : Int), 0 ≤ i → i + m = H g 6 2 → fd = fp_sm (H g 7) i.toNat → fp_Wp L d 50 4 [some (.inr (g, 6)), some (.inl fd), some (.inl i)] [] H Q := by
  intro m
  induction m with
  | zero =>
    intro i fd h0 hi hf
    refine fp_go 1000 [4] (fun KN KC hN hC => ?_)
    conv => whnf
    (try simp only [Int.reduceToNat, Int.toNat_natCast, fp_up_c, fp_up_s, fp_up_i, fp_cp_c, fp_g_s, Nat.reduceBEq, Int.reduceAdd, Int.reduceSub, Int.reduceNeg, Int.reduceMul])
    (repeat' first
        | (refine And.intro (by first | omega | (unfold fp_rg; omega)) ?_; (try intro _); (conv => whnf); (try simp only [Int.reduceToNat, Int.toNat_natCast, fp_up_c, fp_up_s, fp_up_i, fp_cp_c, fp_g_s, Nat.reduceBEq, Int.reduceAdd, Int.reduceSub, Int.reduceNeg, Int.reduceMul]))
        | (refine And.intro (fun _ => ?_) (fun _ => ?_) <;> first | (exfalso; omega) | (rename_i hz_; exact absurd trivial hz_) | ((conv => whnf); (try simp only [Int.reduceToNat, Int.toNat_natCast, fp_up_c, fp_up_s, fp_up_i, fp_cp_c, fp_g_s, Nat.reduceBEq, Int.reduceAdd, Int.reduceSub, Int.reduceNeg, Int.reduceMul])))
        | (refine And.intro (by simp [fp_rg, fp_up, fp_cp] <;> omega) ?_; (conv => whnf); (try simp only [Int.reduceToNat, Int.toNat_natCast, fp_up_c, fp_up_s, fp_up_i, fp_cp_c, fp_g_s, Nat.reduceBEq, Int.reduceAdd, Int.reduceSub, Int.reduceNeg, Int.reduceMul]))
        | fail)
    rw [hf, show i = H g 6 2 by omega]; exact hq
  | succ m ih =>
    intro i fd h0 hi hf
    have hle := fp_sm_le (f := H g 7) (B := 200) i.toNat (fun j hj => hl j (by omega))
    have hl1 := hl i.toNat (by omega)
    refine fp_go 1000 [4] (fun KN KC hN hC => ?_)
    conv => whnf
    (try simp only [Int.reduceToNat, Int.toNat_natCast, fp_up_c, fp_up_s, fp_up_i, fp_cp_c, fp_g_s, Nat.reduceBEq, Int.reduceAdd, Int.reduceSub, Int.reduceNeg, Int.reduceMul])
    (repeat' first
        | (refine And.intro (by first | omega | (unfold fp_rg; omega)) ?_; (try intro _); (conv => whnf); (try simp only [Int.reduceToNat, Int.toNat_natCast, fp_up_c, fp_up_s, fp_up_i, fp_cp_c, fp_g_s, Nat.reduceBEq, Int.reduceAdd, Int.reduceSub, Int.reduceNeg, Int.reduceMul]))
        | (refine And.intro (fun _ => ?_) (fun _ => ?_) <;> first | (exfalso; omega) | (rename_i hz_; exact absurd trivial hz_) | ((conv => whnf); (try simp only [Int.reduceToNat, Int.toNat_natCast, fp_up_c, fp_up_s, fp_up_i, fp_cp_c, fp_g_s, Nat.reduceBEq, Int.reduceAdd, Int.reduceSub, Int.reduceNeg, Int.reduceMul])))
        | (refine And.intro (by simp [fp_rg, fp_up, fp_cp] <;> omega) ?_; (conv => whnf); (try simp only [Int.reduceToNat, Int.toNat_natCast, fp_up_c, fp_up_s, fp_up_i, fp_cp_c, fp_g_s, Nat.reduceBEq, Int.reduceAdd, Int.reduceSub, Int.reduceNeg, Int.reduceMul]))
        | fail)
    exact hN _ _ _ _ (ih _ _ (by omega) (by omega) (by rw [hf]; exact fp_sm_s h0))
set_option maxHeartbeats 600000 in
set_option maxRecDepth 100000 in
theorem sp_sumL {L d g : Nat} {H : FpH} {Q : FpQ} (h : 0 ≤ H g 6 2 ∧ H g 6 2 ≤ 6) (hl : ∀ i : Nat, (i : Int) < H g 6 2 → 0 ≤ H g 7 i ∧ H g 7 i ≤ 200) (hq : Q (some (.inl (fp_sm (H g 7) (H g 6 2).toNat))) H) : fp_Wp L d 50 0 (fp_en 50 [.inr (g, 6)]) [] H Q := by
  refine fp_go 1000 [4] (fun KN KC hN hC => ?_)
  conv => whnf
  (try simp only [Int.reduceToNat, Int.toNat_natCast, fp_up_c, fp_up_s, fp_up_i, fp_cp_c, fp_g_s, Nat.reduceBEq, Int.reduceAdd, Int.reduceSub, Int.reduceNeg, Int.reduceMul])
  (repeat' first
      | (refine And.intro (by first | omega | (unfold fp_rg; omega)) ?_; (try intro _); (conv => whnf); (try simp only [Int.reduceToNat, Int.toNat_natCast, fp_up_c, fp_up_s, fp_up_i, fp_cp_c, fp_g_s, Nat.reduceBEq, Int.reduceAdd, Int.reduceSub, Int.reduceNeg, Int.reduceMul]))
      | (refine And.intro (fun _ => ?_) (fun _ => ?_) <;> first | (exfalso; omega) | (rename_i hz_; exact absurd trivial hz_) | ((conv => whnf); (try simp only [Int.reduceToNat, Int.toNat_natCast, fp_up_c, fp_up_s, fp_up_i, fp_cp_c, fp_g_s, Nat.reduceBEq, Int.reduceAdd, Int.reduceSub, Int.reduceNeg, Int.reduceMul])))
      | (refine And.intro (by simp [fp_rg, fp_up, fp_cp] <;> omega) ?_; (conv => whnf); (try simp only [Int.reduceToNat, Int.toNat_natCast, fp_up_c, fp_up_s, fp_up_i, fp_cp_c, fp_g_s, Nat.reduceBEq, Int.reduceAdd, Int.reduceSub, Int.reduceNeg, Int.reduceMul]))
      | fail)
  exact hN _ _ _ _ (lp_sumL h hl hq (H g 6 2).toNat 0 0 (by omega) (by omega) rfl)
end
section
/-! the profiles -/
def fp_mx (f : Nat → Int) : Nat → Int
  | 0 => 0
  | n + 1 => if fp_mx f n < f n then f n else fp_mx f n
def fp_alk (G : FpG) (p q : Nat) : Prop := ∀ j, j < 8 → G 2 (8 * p + j) = G 2 (8 * q + j)
def fp_has (G : FpG) (p : Nat) (w : Int) : Prop := (w = 1 ∨ 0 < G 3 p) ∧ (w = 0 ∨ 0 < G 4 p)
def fp_padd (G : FpG) (f : Nat → Int) : FpG := fun c i => if c = 1 ∧ i = 4 then G 1 4 + 1 else if c = 2 ∧ 8 * G 1 4 ≤ i ∧ (i : Int) < 8 * G 1 4 + 8 then f (i - 8 * (G 1 4).toNat) else G c i
def fp_tkl (G : FpG) (p : Nat) (w : Int) : FpG := if w = 1 then G else fp_gu G 3 p (G 3 p - 1)
def fp_tk (G : FpG) (p : Nat) (w : Int) : FpG := if w = 0 then fp_tkl G p w else fp_gu (fp_tkl G p w) 4 p (G 4 p - 1)
theorem fp_toN {p : Int} {j : Int} (hp : 0 ≤ p) (hj : 0 ≤ j) : (p * 8 + j).toNat = 8 * p.toNat + j.toNat := by omega
set_option maxHeartbeats 600000 in
set_option maxRecDepth 100000 in
theorem sp_widthAt {L d g : Nat} {p j : Int} {H : FpH} {Q : FpQ} (h : 0 ≤ p ∧ p < 10 ∧ 0 ≤ j ∧ j < 8) (hq : Q (some (.inl (H g 2 (8 * p.toNat + j.toNat)))) H) : fp_Wp L d 14 0 (fp_en 14 [.inr (g, 1), .inl p, .inl j]) [] H Q := by
  rw [← fp_toN h.1 h.2.2.1] at hq
  refine fp_go 1000 [] (fun KN KC hN hC => ?_)
  conv => whnf
  (try simp only [Int.reduceToNat, Int.toNat_natCast, fp_up_c, fp_up_s, fp_up_i, fp_cp_c, fp_g_s, Nat.reduceBEq, Int.reduceAdd, Int.reduceSub, Int.reduceNeg, Int.reduceMul])
  (repeat' first
      | (refine And.intro (by first | omega | (unfold fp_rg; omega)) ?_; (try intro _); (conv => whnf); (try simp only [Int.reduceToNat, Int.toNat_natCast, fp_up_c, fp_up_s, fp_up_i, fp_cp_c, fp_g_s, Nat.reduceBEq, Int.reduceAdd, Int.reduceSub, Int.reduceNeg, Int.reduceMul]))
      | (refine And.intro (fun _ => ?_) (fun _ => ?_) <;> first | (exfalso; omega) | (rename_i hz_; exact absurd trivial hz_) | ((conv => whnf); (try simp only [Int.reduceToNat, Int.toNat_natCast, fp_up_c, fp_up_s, fp_up_i, fp_cp_c, fp_g_s, Nat.reduceBEq, Int.reduceAdd, Int.reduceSub, Int.reduceNeg, Int.reduceMul])))
      | (refine And.intro (by simp [fp_rg, fp_up, fp_cp] <;> omega) ?_; (conv => whnf); (try simp only [Int.reduceToNat, Int.toNat_natCast, fp_up_c, fp_up_s, fp_up_i, fp_cp_c, fp_g_s, Nat.reduceBEq, Int.reduceAdd, Int.reduceSub, Int.reduceNeg, Int.reduceMul]))
      | fail)
  exact hq
set_option maxHeartbeats 600000 in
set_option maxRecDepth 100000 in
theorem lp_greatest {L d g : Nat} {p : Int} {H : FpH} {Q : FpQ} (h : 0 ≤ p ∧ p < 10) (hq : Q (some (.inl (fp_mx (fun j => H g 2 (8 * p.toNat + j)) 8))) H) : ∀ (m : Nat) (i fd : Int), 0 ≤ i → i + m = 8 → fd = fp_mx (fun j => H g 2 (8 * p.toNat + j)) i.toNat → fp_Wp L (d + 1) 15 4 [some (.inr (g, 1)), some (.inl p), some (.inl fd), some (.inl i)] [] H Q := by
  intro m
  induction m with
  | zero =>
    intro i fd h0 hi hf
    obtain rfl : i = 8 := by omega
    refine fp_go 1000 [4] (fun KN KC hN hC => ?_)
    conv => whnf
    (try simp only [Int.reduceToNat, Int.toNat_natCast, fp_up_c, fp_up_s, fp_up_i, fp_cp_c, fp_g_s, Nat.reduceBEq, Int.reduceAdd, Int.reduceSub, Int.reduceNeg, Int.reduceMul])
    (repeat' first
        | (refine And.intro (by first | omega | (unfold fp_rg; omega)) ?_; (try intro _); (conv => whnf); (try simp only [Int.reduceToNat, Int.toNat_natCast, fp_up_c, fp_up_s, fp_up_i, fp_cp_c, fp_g_s, Nat.reduceBEq, Int.reduceAdd, Int.reduceSub, Int.reduceNeg, Int.reduceMul]))
        | (refine And.intro (fun _ => ?_) (fun _ => ?_) <;> first | (exfalso; omega) | (rename_i hz_; exact absurd trivial hz_) | ((conv => whnf); (try simp only [Int.reduceToNat, Int.toNat_natCast, fp_up_c, fp_up_s, fp_up_i, fp_cp_c, fp_g_s, Nat.reduceBEq, Int.reduceAdd, Int.reduceSub, Int.reduceNeg, Int.reduceMul])))
        | (refine And.intro (by simp [fp_rg, fp_up, fp_cp] <;> omega) ?_; (conv => whnf); (try simp only [Int.reduceToNat, Int.toNat_natCast, fp_up_c, fp_up_s, fp_up_i, fp_cp_c, fp_g_s, Nat.reduceBEq, Int.reduceAdd, Int.reduceSub, Int.reduceNeg, Int.reduceMul]))
        | fail)
    rw [hf]; exact hq
  | succ m ih =>
    intro i fd h0 hi hf
    refine fp_go 1000 [4] (fun KN KC hN hC => ?_)
    conv => whnf
    (try simp only [Int.reduceToNat, Int.toNat_natCast, fp_up_c, fp_up_s, fp_up_i, fp_cp_c, fp_g_s, Nat.reduceBEq, Int.reduceAdd, Int.reduceSub, Int.reduceNeg, Int.reduceMul])
    (repeat' first
        | (refine And.intro (by first | omega | (unfold fp_rg; omega)) ?_; (try intro _); (conv => whnf); (try simp only [Int.reduceToNat, Int.toNat_natCast, fp_up_c, fp_up_s, fp_up_i, fp_cp_c, fp_g_s, Nat.reduceBEq, Int.reduceAdd, Int.reduceSub, Int.reduceNeg, Int.reduceMul]))
        | (refine And.intro (fun _ => ?_) (fun _ => ?_) <;> first | (exfalso; omega) | (rename_i hz_; exact absurd trivial hz_) | ((conv => whnf); (try simp only [Int.reduceToNat, Int.toNat_natCast, fp_up_c, fp_up_s, fp_up_i, fp_cp_c, fp_g_s, Nat.reduceBEq, Int.reduceAdd, Int.reduceSub, Int.reduceNeg, Int.reduceMul])))
        | (refine And.intro (by simp [fp_rg, fp_up, fp_cp] <;> omega) ?_; (conv => whnf); (try simp only [Int.reduceToNat, Int.toNat_natCast, fp_up_c, fp_up_s, fp_up_i, fp_cp_c, fp_g_s, Nat.reduceBEq, Int.reduceAdd, Int.reduceSub, Int.reduceNeg, Int.reduceMul]))
        | fail)
    refine hC _ _ _ _ ⟨_, rfl, ?_⟩
    refine sp_widthAt (by omega) ?_
    conv => whnf
    (try simp only [Int.reduceToNat, Int.toNat_natCast, fp_up_c, fp_up_s, fp_up_i, fp_cp_c, fp_g_s, Nat.reduceBEq, Int.reduceAdd, Int.reduceSub, Int.reduceNeg, Int.reduceMul])
    (repeat' first
        | (refine And.intro (by first | omega | (unfold fp_rg; omega)) ?_; (try intro _); (conv => whnf); (try simp only [Int.reduceToNat, Int.toNat_natCast, fp_up_c, fp_up_s, fp_up_i, fp_cp_c, fp_g_s, Nat.reduceBEq, Int.reduceAdd, Int.reduceSub, Int.reduceNeg, Int.reduceMul]))
        | (refine And.intro (fun _ => ?_) (fun _ => ?_) <;> first | (exfalso; omega) | (rename_i hz_; exact absurd trivial hz_) | ((conv => whnf); (try simp only [Int.reduceToNat, Int.toNat_natCast, fp_up_c, fp_up_s, fp_up_i, fp_cp_c, fp_g_s, Nat.reduceBEq, Int.reduceAdd, Int.reduceSub, Int.reduceNeg, Int.reduceMul])))
        | (refine And.intro (by simp [fp_rg, fp_up, fp_cp] <;> omega) ?_; (conv => whnf); (try simp only [Int.reduceToNat, Int.toNat_natCast, fp_up_c, fp_up_s, fp_up_i, fp_cp_c, fp_g_s, Nat.reduceBEq, Int.reduceAdd, Int.reduceSub, Int.reduceNeg, Int.reduceMul]))
        | fail)
    exact hN _ _ _ _ (ih _ _ (by omega) (by omega) (by rw [hf, show (i + 1).toNat = i.toNat + 1 by omega]; rfl))
set_option maxHeartbeats 600000 in
set_option maxRecDepth 100000 in
theorem sp_greatest {L d g : Nat} {p : Int} {H : FpH} {Q : FpQ} (h : 0 ≤ p ∧ p < 10) (hq : Q (some (.inl (fp_mx (fun j => H g 2 (8 * p.toNat + j)) 8))) H) : fp_Wp L (d + 1) 15 0 (fp_en 15 [.inr (g, 1), .inl p]) [] H Q := by
  refine fp_go 1000 [4] (fun KN KC hN hC => ?_)
  conv => whnf
  (try simp only [Int.reduceToNat, Int.toNat_natCast, fp_up_c, fp_up_s, fp_up_i, fp_cp_c, fp_g_s, Nat.reduceBEq, Int.reduceAdd, Int.reduceSub, Int.reduceNeg, Int.reduceMul])
  (repeat' first
      | (refine And.intro (by first | omega | (unfold fp_rg; omega)) ?_; (try intro _); (conv => whnf); (try simp only [Int.reduceToNat, Int.toNat_natCast, fp_up_c, fp_up_s, fp_up_i, fp_cp_c, fp_g_s, Nat.reduceBEq, Int.reduceAdd, Int.reduceSub, Int.reduceNeg, Int.reduceMul]))
      | (refine And.intro (fun _ => ?_) (fun _ => ?_) <;> first | (exfalso; omega) | (rename_i hz_; exact absurd trivial hz_) | ((conv => whnf); (try simp only [Int.reduceToNat, Int.toNat_natCast, fp_up_c, fp_up_s, fp_up_i, fp_cp_c, fp_g_s, Nat.reduceBEq, Int.reduceAdd, Int.reduceSub, Int.reduceNeg, Int.reduceMul])))
      | (refine And.intro (by simp [fp_rg, fp_up, fp_cp] <;> omega) ?_; (conv => whnf); (try simp only [Int.reduceToNat, Int.toNat_natCast, fp_up_c, fp_up_s, fp_up_i, fp_cp_c, fp_g_s, Nat.reduceBEq, Int.reduceAdd, Int.reduceSub, Int.reduceNeg, Int.reduceMul]))
      | fail)
  exact hN _ _ _ _ (lp_greatest h hq 8 0 0 (by omega) (by omega) rfl)
set_option maxHeartbeats 600000 in
set_option maxRecDepth 100000 in
theorem lp_sumW {L d g : Nat} {p : Int} {H : FpH} {Q : FpQ} (h : 0 ≤ p ∧ p < 10) (hw : ∀ j, j < 8 → 0 ≤ H g 2 (8 * p.toNat + j) ∧ H g 2 (8 * p.toNat + j) ≤ 9) (hq : Q (some (.inl (fp_sm (fun j => H g 2 (8 * p.toNat + j)) 8))) H) : ∀ (m : Nat) (i fd : Int), 0 ≤ i → i + m = 8 → fd = fp_sm (fun j => H g 2 (8 * p.toNat + j)) i.toNat → fp_Wp L (d + 1) 16 4 [some (.inr (g, 1)), some (.inl p), some (.inl fd), some (.inl i)] [] H Q := by
  intro m
  induction m with
  | zero =>
    intro i fd h0 hi hf
    obtain rfl : i = 8 := by omega
    refine fp_go 1000 [4] (fun KN KC hN hC => ?_)
    conv => whnf
    (try simp only [Int.reduceToNat, Int.toNat_natCast, fp_up_c, fp_up_s, fp_up_i, fp_cp_c, fp_g_s, Nat.reduceBEq, Int.reduceAdd, Int.reduceSub, Int.reduceNeg, Int.reduceMul])
    (repeat' first
        | (refine And.intro (by first | omega | (unfold fp_rg; omega)) ?_; (try intro _); (conv => whnf); (try simp only [Int.reduceToNat, Int.toNat_natCast, fp_up_c, fp_up_s, fp_up_i, fp_cp_c, fp_g_s, Nat.reduceBEq, Int.reduceAdd, Int.reduceSub, Int.reduceNeg, Int.reduceMul]))
        | (refine And.intro (fun _ => ?_) (fun _ => ?_) <;> first | (exfalso; omega) | (rename_i hz_; exact absurd trivial hz_) | ((conv => whnf); (try simp only [Int.reduceToNat, Int.toNat_natCast, fp_up_c, fp_up_s, fp_up_i, fp_cp_c, fp_g_s, Nat.reduceBEq, Int.reduceAdd, Int.reduceSub, Int.reduceNeg, Int.reduceMul])))
        | (refine And.intro (by simp [fp_rg, fp_up, fp_cp] <;> omega) ?_; (conv => whnf); (try simp only [Int.reduceToNat, Int.toNat_natCast, fp_up_c, fp_up_s, fp_up_i, fp_cp_c, fp_g_s, Nat.reduceBEq, Int.reduceAdd, Int.reduceSub, Int.reduceNeg, Int.reduceMul]))
        | fail)
    rw [hf]; exact hq
  | succ m ih =>
    intro i fd h0 hi hf
    have hle := fp_sm_le (f := fun j => H g 2 (8 * p.toNat + j)) (B := 9) i.toNat (fun j hj => hw j (by omega))
    have hw1 := hw i.toNat (by omega)
    refine fp_go 1000 [4] (fun KN KC hN hC => ?_)
    conv => whnf
    (try simp only [Int.reduceToNat, Int.toNat_natCast, fp_up_c, fp_up_s, fp_up_i, fp_cp_c, fp_g_s, Nat.reduceBEq, Int.reduceAdd, Int.reduceSub, Int.reduceNeg, Int.reduceMul])
    (repeat' first
        | (refine And.intro (by first | omega | (unfold fp_rg; omega)) ?_; (try intro _); (conv => whnf); (try simp only [Int.reduceToNat, Int.toNat_natCast, fp_up_c, fp_up_s, fp_up_i, fp_cp_c, fp_g_s, Nat.reduceBEq, Int.reduceAdd, Int.reduceSub, Int.reduceNeg, Int.reduceMul]))
        | (refine And.intro (fun _ => ?_) (fun _ => ?_) <;> first | (exfalso; omega) | (rename_i hz_; exact absurd trivial hz_) | ((conv => whnf); (try simp only [Int.reduceToNat, Int.toNat_natCast, fp_up_c, fp_up_s, fp_up_i, fp_cp_c, fp_g_s, Nat.reduceBEq, Int.reduceAdd, Int.reduceSub, Int.reduceNeg, Int.reduceMul])))
        | (refine And.intro (by simp [fp_rg, fp_up, fp_cp] <;> omega) ?_; (conv => whnf); (try simp only [Int.reduceToNat, Int.toNat_natCast, fp_up_c, fp_up_s, fp_up_i, fp_cp_c, fp_g_s, Nat.reduceBEq, Int.reduceAdd, Int.reduceSub, Int.reduceNeg, Int.reduceMul]))
        | fail)
    refine hC _ _ _ _ ⟨_, rfl, ?_⟩
    refine sp_widthAt (by omega) ?_
    conv => whnf
    (try simp only [Int.reduceToNat, Int.toNat_natCast, fp_up_c, fp_up_s, fp_up_i, fp_cp_c, fp_g_s, Nat.reduceBEq, Int.reduceAdd, Int.reduceSub, Int.reduceNeg, Int.reduceMul])
    (repeat' first
        | (refine And.intro (by first | omega | (unfold fp_rg; omega)) ?_; (try intro _); (conv => whnf); (try simp only [Int.reduceToNat, Int.toNat_natCast, fp_up_c, fp_up_s, fp_up_i, fp_cp_c, fp_g_s, Nat.reduceBEq, Int.reduceAdd, Int.reduceSub, Int.reduceNeg, Int.reduceMul]))
        | (refine And.intro (fun _ => ?_) (fun _ => ?_) <;> first | (exfalso; omega) | (rename_i hz_; exact absurd trivial hz_) | ((conv => whnf); (try simp only [Int.reduceToNat, Int.toNat_natCast, fp_up_c, fp_up_s, fp_up_i, fp_cp_c, fp_g_s, Nat.reduceBEq, Int.reduceAdd, Int.reduceSub, Int.reduceNeg, Int.reduceMul])))
        | (refine And.intro (by simp [fp_rg, fp_up, fp_cp] <;> omega) ?_; (conv => whnf); (try simp only [Int.reduceToNat, Int.toNat_natCast, fp_up_c, fp_up_s, fp_up_i, fp_cp_c, fp_g_s, Nat.reduceBEq, Int.reduceAdd, Int.reduceSub, Int.reduceNeg, Int.reduceMul]))
        | fail)
    exact hN _ _ _ _ (ih _ _ (by omega) (by omega) (by rw [hf]; exact fp_sm_s (f := fun j => H g 2 (8 * p.toNat + j)) h0))
set_option maxHeartbeats 600000 in
set_option maxRecDepth 100000 in
theorem sp_sumW {L d g : Nat} {p : Int} {H : FpH} {Q : FpQ} (h : 0 ≤ p ∧ p < 10) (hw : ∀ j, j < 8 → 0 ≤ H g 2 (8 * p.toNat + j) ∧ H g 2 (8 * p.toNat + j) ≤ 9) (hq : Q (some (.inl (fp_sm (fun j => H g 2 (8 * p.toNat + j)) 8))) H) : fp_Wp L (d + 1) 16 0 (fp_en 16 [.inr (g, 1), .inl p]) [] H Q := by
  refine fp_go 1000 [4] (fun KN KC hN hC => ?_)
  conv => whnf
  (try simp only [Int.reduceToNat, Int.toNat_natCast, fp_up_c, fp_up_s, fp_up_i, fp_cp_c, fp_g_s, Nat.reduceBEq, Int.reduceAdd, Int.reduceSub, Int.reduceNeg, Int.reduceMul])
  (repeat' first
      | (refine And.intro (by first | omega | (unfold fp_rg; omega)) ?_; (try intro _); (conv => whnf); (try simp only [Int.reduceToNat, Int.toNat_natCast, fp_up_c, fp_up_s, fp_up_i, fp_cp_c, fp_g_s, Nat.reduceBEq, Int.reduceAdd, Int.reduceSub, Int.reduceNeg, Int.reduceMul]))
      | (refine And.intro (fun _ => ?_) (fun _ => ?_) <;> first | (exfalso; omega) | (rename_i hz_; exact absurd trivial hz_) | ((conv => whnf); (try simp only [Int.reduceToNat, Int.toNat_natCast, fp_up_c, fp_up_s, fp_up_i, fp_cp_c, fp_g_s, Nat.reduceBEq, Int.reduceAdd, Int.reduceSub, Int.reduceNeg, Int.reduceMul])))
      | (refine And.intro (by simp [fp_rg, fp_up, fp_cp] <;> omega) ?_; (conv => whnf); (try simp only [Int.reduceToNat, Int.toNat_natCast, fp_up_c, fp_up_s, fp_up_i, fp_cp_c, fp_g_s, Nat.reduceBEq, Int.reduceAdd, Int.reduceSub, Int.reduceNeg, Int.reduceMul]))
      | fail)
  exact hN _ _ _ _ (lp_sumW h hw hq 8 0 0 (by omega) (by omega) rfl)
set_option maxHeartbeats 600000 in
set_option maxRecDepth 100000 in
theorem lp_isAlikeA {L d g st : Nat} {p : Int} {H : FpH} {Q : FpQ} (h : 0 ≤ p ∧ p < 10) (hs : st + 8 ≤ 80) (h1 : (∀ j, j < 8 → H g 2 (8 * p.toNat + j) = H g 2 (st + j)) → Q (some (.inl 1)) H) (h0 : ¬ (∀ j, j < 8 → H g 2 (8 * p.toNat + j) = H g 2 (st + j)) → Q (some (.inl 0)) H) : ∀ (m : Nat) (i : Int), 0 ≤ i → i + m = 8 → (∀ j : Nat, (j : Int) < i → H g 2 (8 * p.toNat + j) = H g 2 (st + j)) → fp_Wp L (d + 1) 17 3 [some (.inr (g, 1)), some (.inl p), some (.inr (g, 2)), some (.inl (st : Int)), some (.inl i)] [] H Q := by
  intro m
  induction m with
  | zero =>
    intro i hi0 hi hf
    obtain rfl : i = 8 := by omega
    refine fp_go 1000 [3] (fun KN KC hN hC => ?_)
    conv => whnf
    (try simp only [Int.reduceToNat, Int.toNat_natCast, fp_up_c, fp_up_s, fp_up_i, fp_cp_c, fp_g_s, Nat.reduceBEq, Int.reduceAdd, Int.reduceSub, Int.reduceNeg, Int.reduceMul])
    (repeat' first
        | (refine And.intro (by first | omega | (unfold fp_rg; omega)) ?_; (try intro _); (conv => whnf); (try simp only [Int.reduceToNat, Int.toNat_natCast, fp_up_c, fp_up_s, fp_up_i, fp_cp_c, fp_g_s, Nat.reduceBEq, Int.reduceAdd, Int.reduceSub, Int.reduceNeg, Int.reduceMul]))
        | (refine And.intro (fun _ => ?_) (fun _ => ?_) <;> first | (exfalso; omega) | (rename_i hz_; exact absurd trivial hz_) | ((conv => whnf); (try simp only [Int.reduceToNat, Int.toNat_natCast, fp_up_c, fp_up_s, fp_up_i, fp_cp_c, fp_g_s, Nat.reduceBEq, Int.reduceAdd, Int.reduceSub, Int.reduceNeg, Int.reduceMul])))
        | (refine And.intro (by simp [fp_rg, fp_up, fp_cp] <;> omega) ?_; (conv => whnf); (try simp only [Int.reduceToNat, Int.toNat_natCast, fp_up_c, fp_up_s, fp_up_i, fp_cp_c, fp_g_s, Nat.reduceBEq, Int.reduceAdd, Int.reduceSub, Int.reduceNeg, Int.reduceMul]))
        | fail)
    exact h1 (fun j hj => hf j (by omega))
  | succ m ih =>
    intro i hi0 hi hf
    refine fp_go 1000 [3] (fun KN KC hN hC => ?_)
    conv => whnf
    (try simp only [Int.reduceToNat, Int.toNat_natCast, fp_up_c, fp_up_s, fp_up_i, fp_cp_c, fp_g_s, Nat.reduceBEq, Int.reduceAdd, Int.reduceSub, Int.reduceNeg, Int.reduceMul])
    (repeat' first
        | (refine And.intro (by first | omega | (unfold fp_rg; omega)) ?_; (try intro _); (conv => whnf); (try simp only [Int.reduceToNat, Int.toNat_natCast, fp_up_c, fp_up_s, fp_up_i, fp_cp_c, fp_g_s, Nat.reduceBEq, Int.reduceAdd, Int.reduceSub, Int.reduceNeg, Int.reduceMul]))
        | (refine And.intro (fun _ => ?_) (fun _ => ?_) <;> first | (exfalso; omega) | (rename_i hz_; exact absurd trivial hz_) | ((conv => whnf); (try simp only [Int.reduceToNat, Int.toNat_natCast, fp_up_c, fp_up_s, fp_up_i, fp_cp_c, fp_g_s, Nat.reduceBEq, Int.reduceAdd, Int.reduceSub, Int.reduceNeg, Int.reduceMul])))
        | (refine And.intro (by simp [fp_rg, fp_up, fp_cp] <;> omega) ?_; (conv => whnf); (try simp only [Int.reduceToNat, Int.toNat_natCast, fp_up_c, fp_up_s, fp_up_i, fp_cp_c, fp_g_s, Nat.reduceBEq, Int.reduceAdd, Int.reduceSub, Int.reduceNeg, Int.reduceMul]))
        | fail)
    refine hC _ _ _ _ ⟨_, rfl, ?_⟩
    refine sp_widthAt (by omega) ?_
    conv => whnf
    (try simp only [Int.reduceToNat, Int.toNat_natCast, fp_up_c, fp_up_s, fp_up_i, fp_cp_c, fp_g_s, Nat.reduceBEq, Int.reduceAdd, Int.reduceSub, Int.reduceNeg, Int.reduceMul])
    (repeat' first
        | (refine And.intro (by first | omega | (unfold fp_rg; omega)) ?_; (try intro _); (conv => whnf); (try simp only [Int.reduceToNat, Int.toNat_natCast, fp_up_c, fp_up_s, fp_up_i, fp_cp_c, fp_g_s, Nat.reduceBEq, Int.reduceAdd, Int.reduceSub, Int.reduceNeg, Int.reduceMul]))
        | (refine And.intro (fun _ => ?_) (fun _ => ?_) <;> first | (exfalso; omega) | (rename_i hz_; exact absurd trivial hz_) | ((conv => whnf); (try simp only [Int.reduceToNat, Int.toNat_natCast, fp_up_c, fp_up_s, fp_up_i, fp_cp_c, fp_g_s, Nat.reduceBEq, Int.reduceAdd, Int.reduceSub, Int.reduceNeg, Int.reduceMul])))
        | (refine And.intro (by simp [fp_rg, fp_up, fp_cp] <;> omega) ?_; (conv => whnf); (try simp only [Int.reduceToNat, Int.toNat_natCast, fp_up_c, fp_up_s, fp_up_i, fp_cp_c, fp_g_s, Nat.reduceBEq, Int.reduceAdd, Int.reduceSub, Int.reduceNeg, Int.reduceMul]))
        | fail)
    · rename_i hb
      have e : ((st : Int) + i).toNat = st + i.toNat := by omega
      rw [e] at hb
      exact hN _ _ _ _ (ih _ (by omega) (by omega) (fun j hj => by
        by_cases hji : (j : Int) < i
        · exact hf j hji
        · obtain rfl : j = i.toNat := by omega
          exact hb))
    · rename_i hb
      have e : ((st : Int) + i).toNat = st + i.toNat := by omega
      rw [e] at hb
      exact h0 (fun q => hb (q i.toNat (by omega)))
set_option maxHeartbeats 600000 in
set_option maxRecDepth 100000 in
theorem sp_isAlikeA {L d g st : Nat} {p : Int} {H : FpH} {Q : FpQ} (h : 0 ≤ p ∧ p < 10) (hs : st + 8 ≤ 80) (h1 : (∀ j, j < 8 → H g 2 (8 * p.toNat + j) = H g 2 (st + j)) → Q (some (.inl 1)) H) (h0 : ¬ (∀ j, j < 8 → H g 2 (8 * p.toNat + j) = H g 2 (st + j)) → Q (some (.inl 0)) H) : fp_Wp L (d + 1) 17 0 (fp_en 17 [.inr (g, 1), .inl p, .inr (g, 2), .inl (st : Int)]) [] H Q := by
  refine fp_go 1000 [3] (fun KN KC hN hC => ?_)
  conv => whnf
  (try simp only [Int.reduceToNat, Int.toNat_natCast, fp_up_c, fp_up_s, fp_up_i, fp_cp_c, fp_g_s, Nat.reduceBEq, Int.reduceAdd, Int.reduceSub, Int.reduceNeg, Int.reduceMul])
  (repeat' first
      | (refine And.intro (by first | omega | (unfold fp_rg; omega)) ?_; (try intro _); (conv => whnf); (try simp only [Int.reduceToNat, Int.toNat_natCast, fp_up_c, fp_up_s, fp_up_i, fp_cp_c, fp_g_s, Nat.reduceBEq, Int.reduceAdd, Int.reduceSub, Int.reduceNeg, Int.reduceMul]))
      | (refine And.intro (fun _ => ?_) (fun _ => ?_) <;> first | (exfalso; omega) | (rename_i hz_; exact absurd trivial hz_) | ((conv => whnf); (try simp only [Int.reduceToNat, Int.toNat_natCast, fp_up_c, fp_up_s, fp_up_i, fp_cp_c, fp_g_s, Nat.reduceBEq, Int.reduceAdd, Int.reduceSub, Int.reduceNeg, Int.reduceMul])))
      | (refine And.intro (by simp [fp_rg, fp_up, fp_cp] <;> omega) ?_; (conv => whnf); (try simp only [Int.reduceToNat, Int.toNat_natCast, fp_up_c, fp_up_s, fp_up_i, fp_cp_c, fp_g_s, Nat.reduceBEq, Int.reduceAdd, Int.reduceSub, Int.reduceNeg, Int.reduceMul]))
      | fail)
  exact hN _ _ _ _ (lp_isAlikeA h hs h1 h0 8 0 (by omega) (by omega) (fun j hj => by omega))
set_option maxHeartbeats 600000 in
set_option maxRecDepth 100000 in
theorem sp_paddA {L d g st : Nat} {H : FpH} {Q : FpQ} (h : 0 ≤ H g 1 4 ∧ H g 1 4 < 10) (hs : st + 8 ≤ 80) (hq : Q (some (.inl (H g 1 4))) (fp_g H g (fp_padd (H g) (fun j => H g 2 (st + j))))) : fp_Wp L d 21 0 (fp_en 21 [.inr (g, 1), .inr (g, 2), .inl (st : Int)]) [] H Q := by
  refine fp_go 1000 [] (fun KN KC hN hC => ?_)
  conv => whnf
  (try simp only [Int.reduceToNat, Int.toNat_natCast, fp_up_c, fp_up_s, fp_up_i, fp_cp_c, fp_g_s, Nat.reduceBEq, Int.reduceAdd, Int.reduceSub, Int.reduceNeg, Int.reduceMul])
  (repeat' first
      | (refine And.intro (by first | omega | (unfold fp_rg; omega)) ?_; (try intro _); (conv => whnf); (try simp only [Int.reduceToNat, Int.toNat_natCast, fp_up_c, fp_up_s, fp_up_i, fp_cp_c, fp_g_s, Nat.reduceBEq, Int.reduceAdd, Int.reduceSub, Int.reduceNeg, Int.reduceMul]))
      | (refine And.intro (fun _ => ?_) (fun _ => ?_) <;> first | (exfalso; omega) | (rename_i hz_; exact absurd trivial hz_) | ((conv => whnf); (try simp only [Int.reduceToNat, Int.toNat_natCast, fp_up_c, fp_up_s, fp_up_i, fp_cp_c, fp_g_s, Nat.reduceBEq, Int.reduceAdd, Int.reduceSub, Int.reduceNeg, Int.reduceMul])))
      | (refine And.intro (by simp [fp_rg, fp_up, fp_cp] <;> omega) ?_; (conv => whnf); (try simp only [Int.reduceToNat, Int.toNat_natCast, fp_up_c, fp_up_s, fp_up_i, fp_cp_c, fp_g_s, Nat.reduceBEq, Int.reduceAdd, Int.reduceSub, Int.reduceNeg, Int.reduceMul]))
      | fail)
  refine fp_eqQ hq ?_
  refine fp_hext (fun x hx y z => ?_) (fun y z => ?_)
  · simp [fp_up, fp_cp, fp_g, hx]
  · have e : (H g 1 4 * 8).toNat = 8 * (H g 1 4).toNat := by omega
    simp only [fp_up, fp_cp, fp_g, true_and, if_true, fp_padd, e]
    grind
set_option maxHeartbeats 600000 in
set_option maxRecDepth 100000 in
theorem lp_isAlikeB {L d g st : Nat} {p : Int} {H : FpH} {Q : FpQ} (h : 0 ≤ p ∧ p < 10) (hs : st + 8 ≤ 64) (h1 : (∀ j, j < 8 → H g 2 (8 * p.toNat + j) = H 7 19 (st + j)) → Q (some (.inl 1)) H) (h0 : ¬ (∀ j, j < 8 → H g 2 (8 * p.toNat + j) = H 7 19 (st + j)) → Q (some (.inl 0)) H) : ∀ (m : Nat) (i : Int), 0 ≤ i → i + m = 8 → (∀ j : Nat, (j : Int) < i → H g 2 (8 * p.toNat + j) = H 7 19 (st + j)) → fp_Wp L (d + 1) 17 3 [some (.inr (g, 1)), some (.inl p), some (.inr (7, 19)), some (.inl (st : Int)), some (.inl i)] [] H Q := by
  intro m
  induction m with
  | zero =>
    intro i hi0 hi hf
    obtain rfl : i = 8 := by omega
    refine fp_go 1000 [3] (fun KN KC hN hC => ?_)
    conv => whnf
    (try simp only [Int.reduceToNat, Int.toNat_natCast, fp_up_c, fp_up_s, fp_up_i, fp_cp_c, fp_g_s, Nat.reduceBEq, Int.reduceAdd, Int.reduceSub, Int.reduceNeg, Int.reduceMul])
    (repeat' first
        | (refine And.intro (by first | omega | (unfold fp_rg; omega)) ?_; (try intro _); (conv => whnf); (try simp only [Int.reduceToNat, Int.toNat_natCast, fp_up_c, fp_up_s, fp_up_i, fp_cp_c, fp_g_s, Nat.reduceBEq, Int.reduceAdd, Int.reduceSub, Int.reduceNeg, Int.reduceMul]))
        | (refine And.intro (fun _ => ?_) (fun _ => ?_) <;> first | (exfalso; omega) | (rename_i hz_; exact absurd trivial hz_) | ((conv => whnf); (try simp only [Int.reduceToNat, Int.toNat_natCast, fp_up_c, fp_up_s, fp_up_i, fp_cp_c, fp_g_s, Nat.reduceBEq, Int.reduceAdd, Int.reduceSub, Int.reduceNeg, Int.reduceMul])))
        | (refine And.intro (by simp [fp_rg, fp_up, fp_cp] <;> omega) ?_; (conv => whnf); (try simp only [Int.reduceToNat, Int.toNat_natCast, fp_up_c, fp_up_s, fp_up_i, fp_cp_c, fp_g_s, Nat.reduceBEq, Int.reduceAdd, Int.reduceSub, Int.reduceNeg, Int.reduceMul]))
        | fail)
    exact h1 (fun j hj => hf j (by omega))
  | succ m ih =>
    intro i hi0 hi hf
    refine fp_go 1000 [3] (fun KN KC hN hC => ?_)
    conv => whnf
    (try simp only [Int.reduceToNat, Int.toNat_natCast, fp_up_c, fp_up_s, fp_up_i, fp_cp_c, fp_g_s, Nat.reduceBEq, Int.reduceAdd, Int.reduceSub, Int.reduceNeg, Int.reduceMul])
    (repeat' first
        | (refine And.intro (by first | omega | (unfold fp_rg; omega)) ?_; (try intro _); (conv => whnf); (try simp only [Int.reduceToNat, Int.toNat_natCast, fp_up_c, fp_up_s, fp_up_i, fp_cp_c, fp_g_s, Nat.reduceBEq, Int.reduceAdd, Int.reduceSub, Int.reduceNeg, Int.reduceMul]))
        | (refine And.intro (fun _ => ?_) (fun _ => ?_) <;> first | (exfalso; omega) | (rename_i hz_; exact absurd trivial hz_) | ((conv => whnf); (try simp only [Int.reduceToNat, Int.toNat_natCast, fp_up_c, fp_up_s, fp_up_i, fp_cp_c, fp_g_s, Nat.reduceBEq, Int.reduceAdd, Int.reduceSub, Int.reduceNeg, Int.reduceMul])))
        | (refine And.intro (by simp [fp_rg, fp_up, fp_cp] <;> omega) ?_; (conv => whnf); (try simp only [Int.reduceToNat, Int.toNat_natCast, fp_up_c, fp_up_s, fp_up_i, fp_cp_c, fp_g_s, Nat.reduceBEq, Int.reduceAdd, Int.reduceSub, Int.reduceNeg, Int.reduceMul]))
        | fail)
    refine hC _ _ _ _ ⟨_, rfl, ?_⟩
    refine sp_widthAt (by omega) ?_
    conv => whnf
    (try simp only [Int.reduceToNat, Int.toNat_natCast, fp_up_c, fp_up_s, fp_up_i, fp_cp_c, fp_g_s, Nat.reduceBEq, Int.reduceAdd, Int.reduceSub, Int.reduceNeg, Int.reduceMul])
    (repeat' first
        | (refine And.intro (by first | omega | (unfold fp_rg; omega)) ?_; (try intro _); (conv => whnf); (try simp only [Int.reduceToNat, Int.toNat_natCast, fp_up_c, fp_up_s, fp_up_i, fp_cp_c, fp_g_s, Nat.reduceBEq, Int.reduceAdd, Int.reduceSub, Int.reduceNeg, Int.reduceMul]))
        | (refine And.intro (fun _ => ?_) (fun _ => ?_) <;> first | (exfalso; omega) | (rename_i hz_; exact absurd trivial hz_) | ((conv => whnf); (try simp only [Int.reduceToNat, Int.toNat_natCast, fp_up_c, fp_up_s, fp_up_i, fp_cp_c, fp_g_s, Nat.reduceBEq, Int.reduceAdd, Int.reduceSub, Int.reduceNeg, Int.reduceMul])))
        | (refine And.intro (by simp [fp_rg, fp_up, fp_cp] <;> omega) ?_; (conv => whnf); (try simp only [Int.reduceToNat, Int.toNat_natCast, fp_up_c, fp_up_s, fp_up_i, fp_cp_c, fp_g_s, Nat.reduceBEq, Int.reduceAdd, Int.reduceSub, Int.reduceNeg, Int.reduceMul]))
        | fail)
    · rename_i hb
      have e : ((st : Int) + i).toNat = st + i.toNat := by omega
      rw [e] at hb
      exact hN _ _ _ _ (ih _ (by omega) (by omega) (fun j hj => by
        by_cases hji : (j : Int) < i
        · exact hf j hji
        · obtain rfl : j = i.toNat := by omega
          exact hb))
    · rename_i hb
      have e : ((st : Int) + i).toNat = st + i.toNat := by omega
      rw [e] at hb
      exact h0 (fun q => hb (q i.toNat (by omega)))
set_option maxHeartbeats 600000 in
set_option maxRecDepth 100000 in
theorem sp_isAlikeB {L d g st : Nat} {p : Int} {H : FpH} {Q : FpQ} (h : 0 ≤ p ∧ p < 10) (hs : st + 8 ≤ 64) (h1 : (∀ j, j < 8 → H g 2 (8 * p.toNat + j) = H 7 19 (st + j)) → Q (some (.inl 1)) H) (h0 : ¬ (∀ j, j < 8 → H g 2 (8 * p.toNat + j) = H 7 19 (st + j)) → Q (some (.inl 0)) H) : fp_Wp L (d + 1) 17 0 (fp_en 17 [.inr (g, 1), .inl p, .inr (7, 19), .inl (st : Int)]) [] H Q := by
  refine fp_go 1000 [3] (fun KN KC hN hC => ?_)
  conv => whnf
  (try simp only [Int.reduceToNat, Int.toNat_natCast, fp_up_c, fp_up_s, fp_up_i, fp_cp_c, fp_g_s, Nat.reduceBEq, Int.reduceAdd, Int.reduceSub, Int.reduceNeg, Int.reduceMul])
  (repeat' first
      | (refine And.intro (by first | omega | (unfold fp_rg; omega)) ?_; (try intro _); (conv => whnf); (try simp only [Int.reduceToNat, Int.toNat_natCast, fp_up_c, fp_up_s, fp_up_i, fp_cp_c, fp_g_s, Nat.reduceBEq, Int.reduceAdd, Int.reduceSub, Int.reduceNeg, Int.reduceMul]))
      | (refine And.intro (fun _ => ?_) (fun _ => ?_) <;> first | (exfalso; omega) | (rename_i hz_; exact absurd trivial hz_) | ((conv => whnf); (try simp only [Int.reduceToNat, Int.toNat_natCast, fp_up_c, fp_up_s, fp_up_i, fp_cp_c, fp_g_s, Nat.reduceBEq, Int.reduceAdd, Int.reduceSub, Int.reduceNeg, Int.reduceMul])))
      | (refine And.intro (by simp [fp_rg, fp_up, fp_cp] <;> omega) ?_; (conv => whnf); (try simp only [Int.reduceToNat, Int.toNat_natCast, fp_up_c, fp_up_s, fp_up_i, fp_cp_c, fp_g_s, Nat.reduceBEq, Int.reduceAdd, Int.reduceSub, Int.reduceNeg, Int.reduceMul]))
      | fail)
  exact hN _ _ _ _ (lp_isAlikeB h hs h1 h0 8 0 (by omega) (by omega) (fun j hj => by omega))
set_option maxHeartbeats 600000 in
set_option maxRecDepth 100000 in
theorem sp_paddB {L d g st : Nat} {H : FpH} {Q : FpQ} (h : 0 ≤ H g 1 4 ∧ H g 1 4 < 10) (hs : st + 8 ≤ 64) (hq : Q (some (.inl (H g 1 4))) (fp_g H g (fp_padd (H g) (fun j => H 7 19 (st + j))))) : fp_Wp L d 21 0 (fp_en 21 [.inr (g, 1), .inr (7, 19), .inl (st : Int)]) [] H Q := by
  refine fp_go 1000 [] (fun KN KC hN hC => ?_)
  conv => whnf
  (try simp only [Int.reduceToNat, Int.toNat_natCast, fp_up_c, fp_up_s, fp_up_i, fp_cp_c, fp_g_s, Nat.reduceBEq, Int.reduceAdd, Int.reduceSub, Int.reduceNeg, Int.reduceMul])
  (repeat' first
      | (refine And.intro (by first | omega | (unfold fp_rg; omega)) ?_; (try intro _); (conv => whnf); (try simp only [Int.reduceToNat, Int.toNat_natCast, fp_up_c, fp_up_s, fp_up_i, fp_cp_c, fp_g_s, Nat.reduceBEq, Int.reduceAdd, Int.reduceSub, Int.reduceNeg, Int.reduceMul]))
      | (refine And.intro (fun _ => ?_) (fun _ => ?_) <;> first | (exfalso; omega) | (rename_i hz_; exact absurd trivial hz_) | ((conv => whnf); (try simp only [Int.reduceToNat, Int.toNat_natCast, fp_up_c, fp_up_s, fp_up_i, fp_cp_c, fp_g_s, Nat.reduceBEq, Int.reduceAdd, Int.reduceSub, Int.reduceNeg, Int.reduceMul])))
      | (refine And.intro (by simp [fp_rg, fp_up, fp_cp] <;> omega) ?_; (conv => whnf); (try simp only [Int.reduceToNat, Int.toNat_natCast, fp_up_c, fp_up_s, fp_up_i, fp_cp_c, fp_g_s, Nat.reduceBEq, Int.reduceAdd, Int.reduceSub, Int.reduceNeg, Int.reduceMul]))
      | fail)
  refine fp_eqQ hq ?_
  refine fp_hext (fun x hx y z => ?_) (fun y z => ?_)
  · simp [fp_up, fp_cp, fp_g, hx]
  · have e : (H g 1 4 * 8).toNat = 8 * (H g 1 4).toNat := by omega
    simp only [fp_up, fp_cp, fp_g, true_and, if_true, fp_padd, e]
    grind
set_option maxHeartbeats 600000 in
set_option maxRecDepth 100000 in
theorem sp_areAlike {L d g q : Nat} {p : Int} {H : FpH} {Q : FpQ} (h : 0 ≤ p ∧ p < 10) (hs : q < 10) (h1 : fp_alk (H g) p.toNat q → Q (some (.inl 1)) H) (h0 : ¬ fp_alk (H g) p.toNat q → Q (some (.inl 0)) H) : fp_Wp L (d + 2) 18 0 (fp_en 18 [.inr (g, 1), .inl p, .inl (q : Int)]) [] H Q := by
  refine fp_go 1000 [] (fun KN KC hN hC => ?_)
  conv => whnf
  (try simp only [Int.reduceToNat, Int.toNat_natCast, fp_up_c, fp_up_s, fp_up_i, fp_cp_c, fp_g_s, Nat.reduceBEq, Int.reduceAdd, Int.reduceSub, Int.reduceNeg, Int.reduceMul])
  (repeat' first
      | (refine And.intro (by first | omega | (unfold fp_rg; omega)) ?_; (try intro _); (conv => whnf); (try simp only [Int.reduceToNat, Int.toNat_natCast, fp_up_c, fp_up_s, fp_up_i, fp_cp_c, fp_g_s, Nat.reduceBEq, Int.reduceAdd, Int.reduceSub, Int.reduceNeg, Int.reduceMul]))
      | (refine And.intro (fun _ => ?_) (fun _ => ?_) <;> first | (exfalso; omega) | (rename_i hz_; exact absurd trivial hz_) | ((conv => whnf); (try simp only [Int.reduceToNat, Int.toNat_natCast, fp_up_c, fp_up_s, fp_up_i, fp_cp_c, fp_g_s, Nat.reduceBEq, Int.reduceAdd, Int.reduceSub, Int.reduceNeg, Int.reduceMul])))
      | (refine And.intro (by simp [fp_rg, fp_up, fp_cp] <;> omega) ?_; (conv => whnf); (try simp only [Int.reduceToNat, Int.toNat_natCast, fp_up_c, fp_up_s, fp_up_i, fp_cp_c, fp_g_s, Nat.reduceBEq, Int.reduceAdd, Int.reduceSub, Int.reduceNeg, Int.reduceMul]))
      | fail)
  have e : (q : Int) * 8 = ((8 * q : Nat) : Int) := by omega
  rw [e]
  refine hC _ _ _ _ ⟨_, rfl, ?_⟩
  refine sp_isAlikeA h (by omega) (fun hh => ?_) (fun hh => ?_)
  · conv => whnf
    (try simp only [Int.reduceToNat, Int.toNat_natCast, fp_up_c, fp_up_s, fp_up_i, fp_cp_c, fp_g_s, Nat.reduceBEq, Int.reduceAdd, Int.reduceSub, Int.reduceNeg, Int.reduceMul])
    (repeat' first
        | (refine And.intro (by first | omega | (unfold fp_rg; omega)) ?_; (try intro _); (conv => whnf); (try simp only [Int.reduceToNat, Int.toNat_natCast, fp_up_c, fp_up_s, fp_up_i, fp_cp_c, fp_g_s, Nat.reduceBEq, Int.reduceAdd, Int.reduceSub, Int.reduceNeg, Int.reduceMul]))
        | (refine And.intro (fun _ => ?_) (fun _ => ?_) <;> first | (exfalso; omega) | (rename_i hz_; exact absurd trivial hz_) | ((conv => whnf); (try simp only [Int.reduceToNat, Int.toNat_natCast, fp_up_c, fp_up_s, fp_up_i, fp_cp_c, fp_g_s, Nat.reduceBEq, Int.reduceAdd, Int.reduceSub, Int.reduceNeg, Int.reduceMul])))
        | (refine And.intro (by simp [fp_rg, fp_up, fp_cp] <;> omega) ?_; (conv => whnf); (try simp only [Int.reduceToNat, Int.toNat_natCast, fp_up_c, fp_up_s, fp_up_i, fp_cp_c, fp_g_s, Nat.reduceBEq, Int.reduceAdd, Int.reduceSub, Int.reduceNeg, Int.reduceMul]))
        | fail)
    exact h1 hh
  · conv => whnf
    (try simp only [Int.reduceToNat, Int.toNat_natCast, fp_up_c, fp_up_s, fp_up_i, fp_cp_c, fp_g_s, Nat.reduceBEq, Int.reduceAdd, Int.reduceSub, Int.reduceNeg, Int.reduceMul])
    (repeat' first
        | (refine And.intro (by first | omega | (unfold fp_rg; omega)) ?_; (try intro _); (conv => whnf); (try simp only [Int.reduceToNat, Int.toNat_natCast, fp_up_c, fp_up_s, fp_up_i, fp_cp_c, fp_g_s, Nat.reduceBEq, Int.reduceAdd, Int.reduceSub, Int.reduceNeg, Int.reduceMul]))
        | (refine And.intro (fun _ => ?_) (fun _ => ?_) <;> first | (exfalso; omega) | (rename_i hz_; exact absurd trivial hz_) | ((conv => whnf); (try simp only [Int.reduceToNat, Int.toNat_natCast, fp_up_c, fp_up_s, fp_up_i, fp_cp_c, fp_g_s, Nat.reduceBEq, Int.reduceAdd, Int.reduceSub, Int.reduceNeg, Int.reduceMul])))
        | (refine And.intro (by simp [fp_rg, fp_up, fp_cp] <;> omega) ?_; (conv => whnf); (try simp only [Int.reduceToNat, Int.toNat_natCast, fp_up_c, fp_up_s, fp_up_i, fp_cp_c, fp_g_s, Nat.reduceBEq, Int.reduceAdd, Int.reduceSub, Int.reduceNeg, Int.reduceMul]))
        | fail)
    exact h0 hh
set_option maxHeartbeats 600000 in
set_option maxRecDepth 100000 in
theorem lp_lowest {L d g p : Nat} {H : FpH} {Q : FpQ} (hp : p < 10) (hq : ∀ r : Nat, r ≤ p → fp_alk (H g) r p → (∀ q, q < r → ¬ fp_alk (H g) q p) → Q (some (.inl (r : Int))) H) : ∀ (m : Nat) (i : Int), 0 ≤ i → i + m = p → (∀ q : Nat, (q : Int) < i → ¬ fp_alk (H g) q p) → fp_Wp L (d + 3) 19 2 [some (.inr (g, 1)), some (.inl (p : Int)), some (.inl i)] [] H Q := by
  intro m
  induction m with
  | zero =>
    intro i h0 hi hf
    refine fp_go 1000 [2] (fun KN KC hN hC => ?_)
    conv => whnf
    (try simp only [Int.reduceToNat, Int.toNat_natCast, fp_up_c, fp_up_s, fp_up_i, fp_cp_c, fp_g_s, Nat.reduceBEq, Int.reduceAdd, Int.reduceSub, Int.reduceNeg, Int.reduceMul])
    (repeat' first
        | (refine And.intro (by first | omega | (unfold fp_rg; omega)) ?_; (try intro _); (conv => whnf); (try simp only [Int.reduceToNat, Int.toNat_natCast, fp_up_c, fp_up_s, fp_up_i, fp_cp_c, fp_g_s, Nat.reduceBEq, Int.reduceAdd, Int.reduceSub, Int.reduceNeg, Int.reduceMul]))
        | (refine And.intro (fun _ => ?_) (fun _ => ?_) <;> first | (exfalso; omega) | (rename_i hz_; exact absurd trivial hz_) | ((conv => whnf); (try simp only [Int.reduceToNat, Int.toNat_natCast, fp_up_c, fp_up_s, fp_up_i, fp_cp_c, fp_g_s, Nat.reduceBEq, Int.reduceAdd, Int.reduceSub, Int.reduceNeg, Int.reduceMul])))
        | (refine And.intro (by simp [fp_rg, fp_up, fp_cp] <;> omega) ?_; (conv => whnf); (try simp only [Int.reduceToNat, Int.toNat_natCast, fp_up_c, fp_up_s, fp_up_i, fp_cp_c, fp_g_s, Nat.reduceBEq, Int.reduceAdd, Int.reduceSub, Int.reduceNeg, Int.reduceMul]))
        | fail)
    exact hq p (Nat.le_refl _) (fun _ _ => rfl) (fun q hq => hf q (by omega))
  | succ m ih =>
    intro i h0 hi hf
    refine fp_go 1000 [2] (fun KN KC hN hC => ?_)
    conv => whnf
    (try simp only [Int.reduceToNat, Int.toNat_natCast, fp_up_c, fp_up_s, fp_up_i, fp_cp_c, fp_g_s, Nat.reduceBEq, Int.reduceAdd, Int.reduceSub, Int.reduceNeg, Int.reduceMul])
    (repeat' first
        | (refine And.intro (by first | omega | (unfold fp_rg; omega)) ?_; (try intro _); (conv => whnf); (try simp only [Int.reduceToNat, Int.toNat_natCast, fp_up_c, fp_up_s, fp_up_i, fp_cp_c, fp_g_s, Nat.reduceBEq, Int.reduceAdd, Int.reduceSub, Int.reduceNeg, Int.reduceMul]))
        | (refine And.intro (fun _ => ?_) (fun _ => ?_) <;> first | (exfalso; omega) | (rename_i hz_; exact absurd trivial hz_) | ((conv => whnf); (try simp only [Int.reduceToNat, Int.toNat_natCast, fp_up_c, fp_up_s, fp_up_i, fp_cp_c, fp_g_s, Nat.reduceBEq, Int.reduceAdd, Int.reduceSub, Int.reduceNeg, Int.reduceMul])))
        | (refine And.intro (by simp [fp_rg, fp_up, fp_cp] <;> omega) ?_; (conv => whnf); (try simp only [Int.reduceToNat, Int.toNat_natCast, fp_up_c, fp_up_s, fp_up_i, fp_cp_c, fp_g_s, Nat.reduceBEq, Int.reduceAdd, Int.reduceSub, Int.reduceNeg, Int.reduceMul]))
        | fail)
    refine hC _ _ _ _ ⟨_, rfl, ?_⟩
    refine sp_areAlike (by omega) hp (fun hh => ?_) (fun hh => ?_)
    · conv => whnf
      (try simp only [Int.reduceToNat, Int.toNat_natCast, fp_up_c, fp_up_s, fp_up_i, fp_cp_c, fp_g_s, Nat.reduceBEq, Int.reduceAdd, Int.reduceSub, Int.reduceNeg, Int.reduceMul])
      (repeat' first
          | (refine And.intro (by first | omega | (unfold fp_rg; omega)) ?_; (try intro _); (conv => whnf); (try simp only [Int.reduceToNat, Int.toNat_natCast, fp_up_c, fp_up_s, fp_up_i, fp_cp_c, fp_g_s, Nat.reduceBEq, Int.reduceAdd, Int.reduceSub, Int.reduceNeg, Int.reduceMul]))
          | (refine And.intro (fun _ => ?_) (fun _ => ?_) <;> first | (exfalso; omega) | (rename_i hz_; exact absurd trivial hz_) | ((conv => whnf); (try simp only [Int.reduceToNat, Int.toNat_natCast, fp_up_c, fp_up_s, fp_up_i, fp_cp_c, fp_g_s, Nat.reduceBEq, Int.reduceAdd, Int.reduceSub, Int.reduceNeg, Int.reduceMul])))
          | (refine And.intro (by simp [fp_rg, fp_up, fp_cp] <;> omega) ?_; (conv => whnf); (try simp only [Int.reduceToNat, Int.toNat_natCast, fp_up_c, fp_up_s, fp_up_i, fp_cp_c, fp_g_s, Nat.reduceBEq, Int.reduceAdd, Int.reduceSub, Int.reduceNeg, Int.reduceMul]))
          | fail)
      have := hq i.toNat (by omega) hh (fun q hq => hf q (by omega))
      rw [show ((i.toNat : Nat) : Int) = i by omega] at this
      exact this
    · conv => whnf
      (try simp only [Int.reduceToNat, Int.toNat_natCast, fp_up_c, fp_up_s, fp_up_i, fp_cp_c, fp_g_s, Nat.reduceBEq, Int.reduceAdd, Int.reduceSub, Int.reduceNeg, Int.reduceMul])
      (repeat' first
          | (refine And.intro (by first | omega | (unfold fp_rg; omega)) ?_; (try intro _); (conv => whnf); (try simp only [Int.reduceToNat, Int.toNat_natCast, fp_up_c, fp_up_s, fp_up_i, fp_cp_c, fp_g_s, Nat.reduceBEq, Int.reduceAdd, Int.reduceSub, Int.reduceNeg, Int.reduceMul]))
          | (refine And.intro (fun _ => ?_) (fun _ => ?_) <;> first | (exfalso; omega) | (rename_i hz_; exact absurd trivial hz_) | ((conv => whnf); (try simp only [Int.reduceToNat, Int.toNat_natCast, fp_up_c, fp_up_s, fp_up_i, fp_cp_c, fp_g_s, Nat.reduceBEq, Int.reduceAdd, Int.reduceSub, Int.reduceNeg, Int.reduceMul])))
          | (refine And.intro (by simp [fp_rg, fp_up, fp_cp] <;> omega) ?_; (conv => whnf); (try simp only [Int.reduceToNat, Int.toNat_natCast, fp_up_c, fp_up_s, fp_up_i, fp_cp_c, fp_g_s, Nat.reduceBEq, Int.reduceAdd, Int.reduceSub, Int.reduceNeg, Int.reduceMul]))
          | fail)
      exact hN _ _ _ _ (ih _ (by omega) (by omega) (fun q hq => by
        by_cases hji : (q : Int) < i
        · exact hf q hji
        · obtain rfl : q = i.toNat := by omega
          exact hh))
set_option maxHeartbeats 600000 in
set_option maxRecDepth 100000 in
theorem sp_lowest {L d g p : Nat} {H : FpH} {Q : FpQ} (hp : p < 10) (hq : ∀ r : Nat, r ≤ p → fp_alk (H g) r p → (∀ q, q < r → ¬ fp_alk (H g) q p) → Q (some (.inl (r : Int))) H) : fp_Wp L (d + 3) 19 0 (fp_en 19 [.inr (g, 1), .inl (p : Int)]) [] H Q := by
  refine fp_go 1000 [2] (fun KN KC hN hC => ?_)
  conv => whnf
  (try simp only [Int.reduceToNat, Int.toNat_natCast, fp_up_c, fp_up_s, fp_up_i, fp_cp_c, fp_g_s, Nat.reduceBEq, Int.reduceAdd, Int.reduceSub, Int.reduceNeg, Int.reduceMul])
  (repeat' first
      | (refine And.intro (by first | omega | (unfold fp_rg; omega)) ?_; (try intro _); (conv => whnf); (try simp only [Int.reduceToNat, Int.toNat_natCast, fp_up_c, fp_up_s, fp_up_i, fp_cp_c, fp_g_s, Nat.reduceBEq, Int.reduceAdd, Int.reduceSub, Int.reduceNeg, Int.reduceMul]))
      | (refine And.intro (fun _ => ?_) (fun _ => ?_) <;> first | (exfalso; omega) | (rename_i hz_; exact absurd trivial hz_) | ((conv => whnf); (try simp only [Int.reduceToNat, Int.toNat_natCast, fp_up_c, fp_up_s, fp_up_i, fp_cp_c, fp_g_s, Nat.reduceBEq, Int.reduceAdd, Int.reduceSub, Int.reduceNeg, Int.reduceMul])))
      | (refine And.intro (by simp [fp_rg, fp_up, fp_cp] <;> omega) ?_; (conv => whnf); (try simp only [Int.reduceToNat, Int.toNat_natCast, fp_up_c, fp_up_s, fp_up_i, fp_cp_c, fp_g_s, Nat.reduceBEq, Int.reduceAdd, Int.reduceSub, Int.reduceNeg, Int.reduceMul]))
      | fail)
  exact hN _ _ _ _ (lp_lowest hp hq p 0 (by omega) (by omega) (fun q hq => by omega))
/-- the widths of an entry of the text -/
def fp_mat (H : FpH) (g q st : Nat) : Prop := ∀ j, j < 8 → H g 2 (8 * q + j) = H 7 19 (st + j)
set_option maxHeartbeats 600000 in
set_option maxRecDepth 100000 in
theorem lp_number {L d g st : Nat} {H : FpH} {Q : FpQ} (h : 0 ≤ H g 1 4 ∧ H g 1 4 ≤ 10) (hs : st + 8 ≤ 64) (hA : ∀ r : Nat, (r : Int) < H g 1 4 → fp_mat H g r st → (∀ q, q < r → ¬ fp_mat H g q st) → Q (some (.inl (r : Int))) H) (hF : (∀ q : Nat, (q : Int) < H g 1 4 → ¬ fp_mat H g q st) → H g 1 4 = 10 → Q (some (.inl (-3))) H)
    (hW : (∀ q : Nat, (q : Int) < H g 1 4 → ¬ fp_mat H g q st) → H g 1 4 < 10 → Q (some (.inl (H g 1 4))) (fp_g H g (fp_padd (H g) (fun j => H 7 19 (st + j))))) : ∀ (m : Nat) (i : Int), 0 ≤ i → i + m = H g 1 4 → (∀ q : Nat, (q : Int) < i → ¬ fp_mat H g q st) → fp_Wp L (d + 2) 20 2 [some (.inr (g, 1)), some (.inr (7, 19)), some (.inl (st : Int)), some (.inl i)] [] H Q := by
  intro m
  induction m with
  | zero =>
    intro i h0 hi hf
    refine fp_go 1000 [2] (fun KN KC hN hC => ?_)
    conv => whnf
    (try simp only [Int.reduceToNat, Int.toNat_natCast, fp_up_c, fp_up_s, fp_up_i, fp_cp_c, fp_g_s, Nat.reduceBEq, Int.reduceAdd, Int.reduceSub, Int.reduceNeg, Int.reduceMul])
    (repeat' first
        | (refine And.intro (by first | omega | (unfold fp_rg; omega)) ?_; (try intro _); (conv => whnf); (try simp only [Int.reduceToNat, Int.toNat_natCast, fp_up_c, fp_up_s, fp_up_i, fp_cp_c, fp_g_s, Nat.reduceBEq, Int.reduceAdd, Int.reduceSub, Int.reduceNeg, Int.reduceMul]))
        | (refine And.intro (fun _ => ?_) (fun _ => ?_) <;> first | (exfalso; omega) | (rename_i hz_; exact absurd trivial hz_) | ((conv => whnf); (try simp only [Int.reduceToNat, Int.toNat_natCast, fp_up_c, fp_up_s, fp_up_i, fp_cp_c, fp_g_s, Nat.reduceBEq, Int.reduceAdd, Int.reduceSub, Int.reduceNeg, Int.reduceMul])))
        | (refine And.intro (by simp [fp_rg, fp_up, fp_cp] <;> omega) ?_; (conv => whnf); (try simp only [Int.reduceToNat, Int.toNat_natCast, fp_up_c, fp_up_s, fp_up_i, fp_cp_c, fp_g_s, Nat.reduceBEq, Int.reduceAdd, Int.reduceSub, Int.reduceNeg, Int.reduceMul]))
        | fail)
    refine hC _ _ _ _ ⟨_, rfl, ?_⟩
    refine sp_pfull (fun hh => ?_) (fun hh => ?_)
    · conv => whnf
      (try simp only [Int.reduceToNat, Int.toNat_natCast, fp_up_c, fp_up_s, fp_up_i, fp_cp_c, fp_g_s, Nat.reduceBEq, Int.reduceAdd, Int.reduceSub, Int.reduceNeg, Int.reduceMul])
      (repeat' first
          | (refine And.intro (by first | omega | (unfold fp_rg; omega)) ?_; (try intro _); (conv => whnf); (try simp only [Int.reduceToNat, Int.toNat_natCast, fp_up_c, fp_up_s, fp_up_i, fp_cp_c, fp_g_s, Nat.reduceBEq, Int.reduceAdd, Int.reduceSub, Int.reduceNeg, Int.reduceMul]))
          | (refine And.intro (fun _ => ?_) (fun _ => ?_) <;> first | (exfalso; omega) | (rename_i hz_; exact absurd trivial hz_) | ((conv => whnf); (try simp only [Int.reduceToNat, Int.toNat_natCast, fp_up_c, fp_up_s, fp_up_i, fp_cp_c, fp_g_s, Nat.reduceBEq, Int.reduceAdd, Int.reduceSub, Int.reduceNeg, Int.reduceMul])))
          | (refine And.intro (by simp [fp_rg, fp_up, fp_cp] <;> omega) ?_; (conv => whnf); (try simp only [Int.reduceToNat, Int.toNat_natCast, fp_up_c, fp_up_s, fp_up_i, fp_cp_c, fp_g_s, Nat.reduceBEq, Int.reduceAdd, Int.reduceSub, Int.reduceNeg, Int.reduceMul]))
          | fail)
      exact hF (fun q hq => hf q (by omega)) (by omega)
    · conv => whnf
      (try simp only [Int.reduceToNat, Int.toNat_natCast, fp_up_c, fp_up_s, fp_up_i, fp_cp_c, fp_g_s, Nat.reduceBEq, Int.reduceAdd, Int.reduceSub, Int.reduceNeg, Int.reduceMul])
      (repeat' first
          | (refine And.intro (by first | omega | (unfold fp_rg; omega)) ?_; (try intro _); (conv => whnf); (try simp only [Int.reduceToNat, Int.toNat_natCast, fp_up_c, fp_up_s, fp_up_i, fp_cp_c, fp_g_s, Nat.reduceBEq, Int.reduceAdd, Int.reduceSub, Int.reduceNeg, Int.reduceMul]))
          | (refine And.intro (fun _ => ?_) (fun _ => ?_) <;> first | (exfalso; omega) | (rename_i hz_; exact absurd trivial hz_) | ((conv => whnf); (try simp only [Int.reduceToNat, Int.toNat_natCast, fp_up_c, fp_up_s, fp_up_i, fp_cp_c, fp_g_s, Nat.reduceBEq, Int.reduceAdd, Int.reduceSub, Int.reduceNeg, Int.reduceMul])))
          | (refine And.intro (by simp [fp_rg, fp_up, fp_cp] <;> omega) ?_; (conv => whnf); (try simp only [Int.reduceToNat, Int.toNat_natCast, fp_up_c, fp_up_s, fp_up_i, fp_cp_c, fp_g_s, Nat.reduceBEq, Int.reduceAdd, Int.reduceSub, Int.reduceNeg, Int.reduceMul]))
          | fail)
      refine hC _ _ _ _ ⟨_, rfl, ?_⟩
      refine sp_paddB (by omega) hs ?_
      conv => whnf
      (try simp only [Int.reduceToNat, Int.toNat_natCast, fp_up_c, fp_up_s, fp_up_i, fp_cp_c, fp_g_s, Nat.reduceBEq, Int.reduceAdd, Int.reduceSub, Int.reduceNeg, Int.reduceMul])
      (repeat' first
          | (refine And.intro (by first | omega | (unfold fp_rg; omega)) ?_; (try intro _); (conv => whnf); (try simp only [Int.reduceToNat, Int.toNat_natCast, fp_up_c, fp_up_s, fp_up_i, fp_cp_c, fp_g_s, Nat.reduceBEq, Int.reduceAdd, Int.reduceSub, Int.reduceNeg, Int.reduceMul]))
          | (refine And.intro (fun _ => ?_) (fun _ => ?_) <;> first | (exfalso; omega) | (rename_i hz_; exact absurd trivial hz_) | ((conv => whnf); (try simp only [Int.reduceToNat, Int.toNat_natCast, fp_up_c, fp_up_s, fp_up_i, fp_cp_c, fp_g_s, Nat.reduceBEq, Int.reduceAdd, Int.reduceSub, Int.reduceNeg, Int.reduceMul])))
          | (refine And.intro (by simp [fp_rg, fp_up, fp_cp] <;> omega) ?_; (conv => whnf); (try simp only [Int.reduceToNat, Int.toNat_natCast, fp_up_c, fp_up_s, fp_up_i, fp_cp_c, fp_g_s, Nat.reduceBEq, Int.reduceAdd, Int.reduceSub, Int.reduceNeg, Int.reduceMul]))
          | fail)
      exact hW (fun q hq => hf q (by omega)) (by omega)
  | succ m ih =>
    intro i h0 hi hf
    refine fp_go 1000 [2] (fun KN KC hN hC => ?_)
    conv => whnf
    (try simp only [Int.reduceToNat, Int.toNat_natCast, fp_up_c, fp_up_s, fp_up_i, fp_cp_c, fp_g_s, Nat.reduceBEq, Int.reduceAdd, Int.reduceSub, Int.reduceNeg, Int.reduceMul])
    (repeat' first
        | (refine And.intro (by first | omega | (unfold fp_rg; omega)) ?_; (try intro _); (conv => whnf); (try simp only [Int.reduceToNat, Int.toNat_natCast, fp_up_c, fp_up_s, fp_up_i, fp_cp_c, fp_g_s, Nat.reduceBEq, Int.reduceAdd, Int.reduceSub, Int.reduceNeg, Int.reduceMul]))
        | (refine And.intro (fun _ => ?_) (fun _ => ?_) <;> first | (exfalso; omega) | (rename_i hz_; exact absurd trivial hz_) | ((conv => whnf); (try simp only [Int.reduceToNat, Int.toNat_natCast, fp_up_c, fp_up_s, fp_up_i, fp_cp_c, fp_g_s, Nat.reduceBEq, Int.reduceAdd, Int.reduceSub, Int.reduceNeg, Int.reduceMul])))
        | (refine And.intro (by simp [fp_rg, fp_up, fp_cp] <;> omega) ?_; (conv => whnf); (try simp only [Int.reduceToNat, Int.toNat_natCast, fp_up_c, fp_up_s, fp_up_i, fp_cp_c, fp_g_s, Nat.reduceBEq, Int.reduceAdd, Int.reduceSub, Int.reduceNeg, Int.reduceMul]))
        | fail)
    refine hC _ _ _ _ ⟨_, rfl, ?_⟩
    refine sp_isAlikeB (by omega) hs (fun hh => ?_) (fun hh => ?_)
    · conv => whnf
      (try simp only [Int.reduceToNat, Int.toNat_natCast, fp_up_c, fp_up_s, fp_up_i, fp_cp_c, fp_g_s, Nat.reduceBEq, Int.reduceAdd, Int.reduceSub, Int.reduceNeg, Int.reduceMul])
      (repeat' first
          | (refine And.intro (by first | omega | (unfold fp_rg; omega)) ?_; (try intro _); (conv => whnf); (try simp only [Int.reduceToNat, Int.toNat_natCast, fp_up_c, fp_up_s, fp_up_i, fp_cp_c, fp_g_s, Nat.reduceBEq, Int.reduceAdd, Int.reduceSub, Int.reduceNeg, Int.reduceMul]))
          | (refine And.intro (fun _ => ?_) (fun _ => ?_) <;> first | (exfalso; omega) | (rename_i hz_; exact absurd trivial hz_) | ((conv => whnf); (try simp only [Int.reduceToNat, Int.toNat_natCast, fp_up_c, fp_up_s, fp_up_i, fp_cp_c, fp_g_s, Nat.reduceBEq, Int.reduceAdd, Int.reduceSub, Int.reduceNeg, Int.reduceMul])))
          | (refine And.intro (by simp [fp_rg, fp_up, fp_cp] <;> omega) ?_; (conv => whnf); (try simp only [Int.reduceToNat, Int.toNat_natCast, fp_up_c, fp_up_s, fp_up_i, fp_cp_c, fp_g_s, Nat.reduceBEq, Int.reduceAdd, Int.reduceSub, Int.reduceNeg, Int.reduceMul]))
          | fail)
      have := hA i.toNat (by omega) hh (fun q hq => hf q (by omega))
      rw [show ((i.toNat : Nat) : Int) = i by omega] at this
      exact this
    · conv => whnf
      (try simp only [Int.reduceToNat, Int.toNat_natCast, fp_up_c, fp_up_s, fp_up_i, fp_cp_c, fp_g_s, Nat.reduceBEq, Int.reduceAdd, Int.reduceSub, Int.reduceNeg, Int.reduceMul])
      (repeat' first
          | (refine And.intro (by first | omega | (unfold fp_rg; omega)) ?_; (try intro _); (conv => whnf); (try simp only [Int.reduceToNat, Int.toNat_natCast, fp_up_c, fp_up_s, fp_up_i, fp_cp_c, fp_g_s, Nat.reduceBEq, Int.reduceAdd, Int.reduceSub, Int.reduceNeg, Int.reduceMul]))
          | (refine And.intro (fun _ => ?_) (fun _ => ?_) <;> first | (exfalso; omega) | (rename_i hz_; exact absurd trivial hz_) | ((conv => whnf); (try simp only [Int.reduceToNat, Int.toNat_natCast, fp_up_c, fp_up_s, fp_up_i, fp_cp_c, fp_g_s, Nat.reduceBEq, Int.reduceAdd, Int.reduceSub, Int.reduceNeg, Int.reduceMul])))
          | (refine And.intro (by simp [fp_rg, fp_up, fp_cp] <;> omega) ?_; (conv => whnf); (try simp only [Int.reduceToNat, Int.toNat_natCast, fp_up_c, fp_up_s, fp_up_i, fp_cp_c, fp_g_s, Nat.reduceBEq, Int.reduceAdd, Int.reduceSub, Int.reduceNeg, Int.reduceMul]))
          | fail)
      exact hN _ _ _ _ (ih _ (by omega) (by omega) (fun q hq => by
        by_cases hji : (q : Int) < i
        · exact hf q hji
        · obtain rfl : q = i.toNat := by omega
          exact hh))
set_option maxHeartbeats 600000 in
set_option maxRecDepth 100000 in
theorem sp_number {L d g st : Nat} {H : FpH} {Q : FpQ} (h : 0 ≤ H g 1 4 ∧ H g 1 4 ≤ 10) (hs : st + 8 ≤ 64) (hA : ∀ r : Nat, (r : Int) < H g 1 4 → fp_mat H g r st → (∀ q, q < r → ¬ fp_mat H g q st) → Q (some (.inl (r : Int))) H) (hF : (∀ q : Nat, (q : Int) < H g 1 4 → ¬ fp_mat H g q st) → H g 1 4 = 10 → Q (some (.inl (-3))) H)
    (hW : (∀ q : Nat, (q : Int) < H g 1 4 → ¬ fp_mat H g q st) → H g 1 4 < 10 → Q (some (.inl (H g 1 4))) (fp_g H g (fp_padd (H g) (fun j => H 7 19 (st + j))))) : fp_Wp L (d + 2) 20 0 (fp_en 20 [.inr (g, 1), .inr (7, 19), .inl (st : Int)]) [] H Q := by
  refine fp_go 1000 [2] (fun KN KC hN hC => ?_)
  conv => whnf
  (try simp only [Int.reduceToNat, Int.toNat_natCast, fp_up_c, fp_up_s, fp_up_i, fp_cp_c, fp_g_s, Nat.reduceBEq, Int.reduceAdd, Int.reduceSub, Int.reduceNeg, Int.reduceMul])
  (repeat' first
      | (refine And.intro (by first | omega | (unfold fp_rg; omega)) ?_; (try intro _); (conv => whnf); (try simp only [Int.reduceToNat, Int.toNat_natCast, fp_up_c, fp_up_s, fp_up_i, fp_cp_c, fp_g_s, Nat.reduceBEq, Int.reduceAdd, Int.reduceSub, Int.reduceNeg, Int.reduceMul]))
      | (refine And.intro (fun _ => ?_) (fun _ => ?_) <;> first | (exfalso; omega) | (rename_i hz_; exact absurd trivial hz_) | ((conv => whnf); (try simp only [Int.reduceToNat, Int.toNat_natCast, fp_up_c, fp_up_s, fp_up_i, fp_cp_c, fp_g_s, Nat.reduceBEq, Int.reduceAdd, Int.reduceSub, Int.reduceNeg, Int.reduceMul])))
      | (refine And.intro (by simp [fp_rg, fp_up, fp_cp] <;> omega) ?_; (conv => whnf); (try simp only [Int.reduceToNat, Int.toNat_natCast, fp_up_c, fp_up_s, fp_up_i, fp_cp_c, fp_g_s, Nat.reduceBEq, Int.reduceAdd, Int.reduceSub, Int.reduceNeg, Int.reduceMul]))
      | fail)
  exact hN _ _ _ _ (lp_number h hs hA hF hW (H g 1 4).toNat 0 (by omega) (by omega) (fun q hq => by omega))
set_option maxHeartbeats 600000 in
set_option maxRecDepth 100000 in
theorem sp_addLike {L d g p j : Nat} {v : Int} {H : FpH} {Q : FpQ} (h : 0 ≤ H g 1 4 ∧ H g 1 4 < 10) (hp : p < 10 ∧ j < 8) (hq : Q (some (.inl (H g 1 4))) (fp_g H g (fp_gu (fp_padd (H g) (fun j => H g 2 (8 * p + j))) 2 (8 * (H g 1 4).toNat + j) v))) : fp_Wp L (d + 1) 22 0 (fp_en 22 [.inr (g, 1), .inl (p : Int), .inl (j : Int), .inl v]) [] H Q := by
  refine fp_go 1000 [] (fun KN KC hN hC => ?_)
  conv => whnf
  (try simp only [Int.reduceToNat, Int.toNat_natCast, fp_up_c, fp_up_s, fp_up_i, fp_cp_c, fp_g_s, Nat.reduceBEq, Int.reduceAdd, Int.reduceSub, Int.reduceNeg, Int.reduceMul])
  (repeat' first
      | (refine And.intro (by first | omega | (unfold fp_rg; omega)) ?_; (try intro _); (conv => whnf); (try simp only [Int.reduceToNat, Int.toNat_natCast, fp_up_c, fp_up_s, fp_up_i, fp_cp_c, fp_g_s, Nat.reduceBEq, Int.reduceAdd, Int.reduceSub, Int.reduceNeg, Int.reduceMul]))
      | (refine And.intro (fun _ => ?_) (fun _ => ?_) <;> first | (exfalso; omega) | (rename_i hz_; exact absurd trivial hz_) | ((conv => whnf); (try simp only [Int.reduceToNat, Int.toNat_natCast, fp_up_c, fp_up_s, fp_up_i, fp_cp_c, fp_g_s, Nat.reduceBEq, Int.reduceAdd, Int.reduceSub, Int.reduceNeg, Int.reduceMul])))
      | (refine And.intro (by simp [fp_rg, fp_up, fp_cp] <;> omega) ?_; (conv => whnf); (try simp only [Int.reduceToNat, Int.toNat_natCast, fp_up_c, fp_up_s, fp_up_i, fp_cp_c, fp_g_s, Nat.reduceBEq, Int.reduceAdd, Int.reduceSub, Int.reduceNeg, Int.reduceMul]))
      | fail)
  have e : (p : Int) * 8 = ((8 * p : Nat) : Int) := by omega
  rw [e]
  refine hC _ _ _ _ ⟨_, rfl, ?_⟩
  refine sp_paddA h (by omega) ?_
  conv => whnf
  (try simp only [Int.reduceToNat, Int.toNat_natCast, fp_up_c, fp_up_s, fp_up_i, fp_cp_c, fp_g_s, Nat.reduceBEq, Int.reduceAdd, Int.reduceSub, Int.reduceNeg, Int.reduceMul])
  (repeat' first
      | (refine And.intro (by first | omega | (unfold fp_rg; omega)) ?_; (try intro _); (conv => whnf); (try simp only [Int.reduceToNat, Int.toNat_natCast, fp_up_c, fp_up_s, fp_up_i, fp_cp_c, fp_g_s, Nat.reduceBEq, Int.reduceAdd, Int.reduceSub, Int.reduceNeg, Int.reduceMul]))
      | (refine And.intro (fun _ => ?_) (fun _ => ?_) <;> first | (exfalso; omega) | (rename_i hz_; exact absurd trivial hz_) | ((conv => whnf); (try simp only [Int.reduceToNat, Int.toNat_natCast, fp_up_c, fp_up_s, fp_up_i, fp_cp_c, fp_g_s, Nat.reduceBEq, Int.reduceAdd, Int.reduceSub, Int.reduceNeg, Int.reduceMul])))
      | (refine And.intro (by simp [fp_rg, fp_up, fp_cp] <;> omega) ?_; (conv => whnf); (try simp only [Int.reduceToNat, Int.toNat_natCast, fp_up_c, fp_up_s, fp_up_i, fp_cp_c, fp_g_s, Nat.reduceBEq, Int.reduceAdd, Int.reduceSub, Int.reduceNeg, Int.reduceMul]))
      | fail)
  have e2 : (H g 1 4 * 8 + (j : Int)).toNat = 8 * (H g 1 4).toNat + j := by omega
  rw [e2, fp_up_g, fp_g_s, fp_g_g]
  exact hq
set_option maxHeartbeats 600000 in
set_option maxRecDepth 100000 in
theorem sp_hasInStock {L d g p : Nat} {w : Int} {H : FpH} {Q : FpQ} (hp : p < 10) (h1 : fp_has (H g) p w → Q (some (.inl 1)) H) (h0 : ¬ fp_has (H g) p w → Q (some (.inl 0)) H) : fp_Wp L d 23 0 (fp_en 23 [.inr (g, 1), .inl (p : Int), .inl w]) [] H Q := by
  unfold fp_has at h1 h0
  refine fp_go 1000 [] (fun KN KC hN hC => ?_)
  conv => whnf
  (try simp only [Int.reduceToNat, Int.toNat_natCast, fp_up_c, fp_up_s, fp_up_i, fp_cp_c, fp_g_s, Nat.reduceBEq, Int.reduceAdd, Int.reduceSub, Int.reduceNeg, Int.reduceMul])
  (repeat' first
      | (refine And.intro (by first | omega | (unfold fp_rg; omega)) ?_; (try intro _); (conv => whnf); (try simp only [Int.reduceToNat, Int.toNat_natCast, fp_up_c, fp_up_s, fp_up_i, fp_cp_c, fp_g_s, Nat.reduceBEq, Int.reduceAdd, Int.reduceSub, Int.reduceNeg, Int.reduceMul]))
      | (refine And.intro (fun _ => ?_) (fun _ => ?_) <;> first | (exfalso; omega) | (rename_i hz_; exact absurd trivial hz_) | ((conv => whnf); (try simp only [Int.reduceToNat, Int.toNat_natCast, fp_up_c, fp_up_s, fp_up_i, fp_cp_c, fp_g_s, Nat.reduceBEq, Int.reduceAdd, Int.reduceSub, Int.reduceNeg, Int.reduceMul])))
      | (refine And.intro (by simp [fp_rg, fp_up, fp_cp] <;> omega) ?_; (conv => whnf); (try simp only [Int.reduceToNat, Int.toNat_natCast, fp_up_c, fp_up_s, fp_up_i, fp_cp_c, fp_g_s, Nat.reduceBEq, Int.reduceAdd, Int.reduceSub, Int.reduceNeg, Int.reduceMul]))
      | fail)
  all_goals first | exact h1 (by omega) | exact h0 (by omega)
set_option maxHeartbeats 600000 in
set_option maxRecDepth 100000 in
theorem sp_take {L d g p : Nat} {w : Int} {H : FpH} {Q : FpQ} (hp : p < 10) (hs : 0 ≤ H g 3 p ∧ H g 3 p ≤ 2000000 ∧ 0 ≤ H g 4 p ∧ H g 4 p ≤ 2000000) (hq : Q none (fp_g H g (fp_tk (H g) p w))) : fp_Wp L d 24 0 (fp_en 24 [.inr (g, 1), .inl (p : Int), .inl w]) [] H Q := by
  unfold fp_tk fp_tkl at hq
  refine fp_go 1000 [] (fun KN KC hN hC => ?_)
  conv => whnf
  (try simp only [Int.reduceToNat, Int.toNat_natCast, fp_up_c, fp_up_s, fp_up_i, fp_cp_c, fp_g_s, Nat.reduceBEq, Int.reduceAdd, Int.reduceSub, Int.reduceNeg, Int.reduceMul])
  (repeat' first
      | (refine And.intro (by first | omega | (unfold fp_rg; omega)) ?_; (try intro _); (conv => whnf); (try simp only [Int.reduceToNat, Int.toNat_natCast, fp_up_c, fp_up_s, fp_up_i, fp_cp_c, fp_g_s, Nat.reduceBEq, Int.reduceAdd, Int.reduceSub, Int.reduceNeg, Int.reduceMul]))
      | (refine And.intro (fun _ => ?_) (fun _ => ?_) <;> first | (exfalso; omega) | (rename_i hz_; exact absurd trivial hz_) | ((conv => whnf); (try simp only [Int.reduceToNat, Int.toNat_natCast, fp_up_c, fp_up_s, fp_up_i, fp_cp_c, fp_g_s, Nat.reduceBEq, Int.reduceAdd, Int.reduceSub, Int.reduceNeg, Int.reduceMul])))
      | (refine And.intro (by simp [fp_rg, fp_up, fp_cp] <;> omega) ?_; (conv => whnf); (try simp only [Int.reduceToNat, Int.toNat_natCast, fp_up_c, fp_up_s, fp_up_i, fp_cp_c, fp_g_s, Nat.reduceBEq, Int.reduceAdd, Int.reduceSub, Int.reduceNeg, Int.reduceMul]))
      | fail)
  all_goals simp [*, fp_up_g, fp_g_s, fp_g_g, fp_gu] at hq ⊢
  all_goals exact hq
end
section
/-! a state of the stall -/
def fp_cpP (G F : FpG) : FpG := fun c i => if (c = 2 ∧ i < 80) ∨ ((c = 3 ∨ c = 4 ∨ c = 5) ∧ i < 10) ∨ (c = 1 ∧ i = 4) then F c i else G c i
def fp_cpS (G F : FpG) : FpG := fun c i => if ((c = 7 ∨ c = 8) ∧ i < 6) ∨ (c = 6 ∧ i = 2) then F c i else G c i
def fp_cpL (G F : FpG) : FpG := fun c i => if ((c = 10 ∨ c = 11 ∨ c = 12) ∧ i < 12) ∨ (c = 9 ∧ i = 3) then F c i else G c i
def fp_rel (c i : Nat) : Prop := (c = 2 ∧ i < 80) ∨ ((c = 3 ∨ c = 4 ∨ c = 5) ∧ i < 10) ∨ (c = 1 ∧ i = 4) ∨ ((c = 7 ∨ c = 8) ∧ i < 6) ∨ (c = 6 ∧ i = 2) ∨ ((c = 10 ∨ c = 11 ∨ c = 12) ∧ i < 12) ∨ (c = 9 ∧ i = 3) ∨ (c = 13 ∧ i < 3) ∨ (c = 0 ∧ 4 ≤ i ∧ i < 9)
/-- a copy of the state F into G -/
def fp_cpG (G F : FpG) : FpG := fun c i => if (c = 2 ∧ i < 80) ∨ ((c = 3 ∨ c = 4 ∨ c = 5) ∧ i < 10) ∨ (c = 1 ∧ i = 4) ∨ ((c = 7 ∨ c = 8) ∧ i < 6) ∨ (c = 6 ∧ i = 2) ∨ ((c = 10 ∨ c = 11 ∨ c = 12) ∧ i < 12) ∨ (c = 9 ∧ i = 3) ∨ (c = 13 ∧ i < 3) ∨ (c = 0 ∧ 4 ≤ i ∧ i < 9) then F c i else G c i
set_option maxHeartbeats 600000 in
set_option maxRecDepth 100000 in
theorem sp_cpP {L d g g' : Nat} {H : FpH} {Q : FpQ} (hne : g' ≠ g) (hq : Q none (fp_g H g (fp_cpP (H g) (H g')))) : fp_Wp L d 11 0 (fp_en 11 [.inr (g, 1), .inr (g', 1)]) [] H Q := by
  refine fp_go 1000 [] (fun KN KC hN hC => ?_)
  conv => whnf
  (try simp only [Int.reduceToNat, Int.toNat_natCast, fp_up_c, fp_up_s, fp_up_i, fp_cp_c, fp_g_s, Nat.reduceBEq, Int.reduceAdd, Int.reduceSub, Int.reduceNeg, Int.reduceMul])
  (repeat' first
      | (refine And.intro (by first | omega | (unfold fp_rg; omega)) ?_; (try intro _); (conv => whnf); (try simp only [Int.reduceToNat, Int.toNat_natCast, fp_up_c, fp_up_s, fp_up_i, fp_cp_c, fp_g_s, Nat.reduceBEq, Int.reduceAdd, Int.reduceSub, Int.reduceNeg, Int.reduceMul]))
      | (refine And.intro (fun _ => ?_) (fun _ => ?_) <;> first | (exfalso; omega) | (rename_i hz_; exact absurd trivial hz_) | ((conv => whnf); (try simp only [Int.reduceToNat, Int.toNat_natCast, fp_up_c, fp_up_s, fp_up_i, fp_cp_c, fp_g_s, Nat.reduceBEq, Int.reduceAdd, Int.reduceSub, Int.reduceNeg, Int.reduceMul])))
      | (refine And.intro (by simp [fp_rg, fp_up, fp_cp] <;> omega) ?_; (conv => whnf); (try simp only [Int.reduceToNat, Int.toNat_natCast, fp_up_c, fp_up_s, fp_up_i, fp_cp_c, fp_g_s, Nat.reduceBEq, Int.reduceAdd, Int.reduceSub, Int.reduceNeg, Int.reduceMul]))
      | fail)
  refine fp_eqQ hq ?_
  refine fp_hext (fun x hx y z => ?_) (fun y z => ?_)
  · simp [fp_up, fp_cp, fp_g, hx]
  · simp only [fp_up, fp_cp, fp_g, true_and, if_true, fp_cpP, hne, false_and, if_false]
    grind
set_option maxHeartbeats 600000 in
set_option maxRecDepth 100000 in
theorem sp_cpS {L d g g' : Nat} {H : FpH} {Q : FpQ} (hne : g' ≠ g) (hq : Q none (fp_g H g (fp_cpS (H g) (H g')))) : fp_Wp L d 44 0 (fp_en 44 [.inr (g, 6), .inr (g', 6)]) [] H Q := by
  refine fp_go 1000 [] (fun KN KC hN hC => ?_)
  conv => whnf
  (try simp only [Int.reduceToNat, Int.toNat_natCast, fp_up_c, fp_up_s, fp_up_i, fp_cp_c, fp_g_s, Nat.reduceBEq, Int.reduceAdd, Int.reduceSub, Int.reduceNeg, Int.reduceMul])
  (repeat' first
      | (refine And.intro (by first | omega | (unfold fp_rg; omega)) ?_; (try intro _); (conv => whnf); (try simp only [Int.reduceToNat, Int.toNat_natCast, fp_up_c, fp_up_s, fp_up_i, fp_cp_c, fp_g_s, Nat.reduceBEq, Int.reduceAdd, Int.reduceSub, Int.reduceNeg, Int.reduceMul]))
      | (refine And.intro (fun _ => ?_) (fun _ => ?_) <;> first | (exfalso; omega) | (rename_i hz_; exact absurd trivial hz_) | ((conv => whnf); (try simp only [Int.reduceToNat, Int.toNat_natCast, fp_up_c, fp_up_s, fp_up_i, fp_cp_c, fp_g_s, Nat.reduceBEq, Int.reduceAdd, Int.reduceSub, Int.reduceNeg, Int.reduceMul])))
      | (refine And.intro (by simp [fp_rg, fp_up, fp_cp] <;> omega) ?_; (conv => whnf); (try simp only [Int.reduceToNat, Int.toNat_natCast, fp_up_c, fp_up_s, fp_up_i, fp_cp_c, fp_g_s, Nat.reduceBEq, Int.reduceAdd, Int.reduceSub, Int.reduceNeg, Int.reduceMul]))
      | fail)
  refine fp_eqQ hq ?_
  refine fp_hext (fun x hx y z => ?_) (fun y z => ?_)
  · simp [fp_up, fp_cp, fp_g, hx]
  · simp only [fp_up, fp_cp, fp_g, true_and, if_true, fp_cpS, hne, false_and, if_false]
    grind
set_option maxHeartbeats 600000 in
set_option maxRecDepth 100000 in
theorem sp_cpL {L d g g' : Nat} {H : FpH} {Q : FpQ} (hne : g' ≠ g) (hq : Q none (fp_g H g (fp_cpL (H g) (H g')))) : fp_Wp L d 3 0 (fp_en 3 [.inr (g, 9), .inr (g', 9)]) [] H Q := by
  refine fp_go 1000 [] (fun KN KC hN hC => ?_)
  conv => whnf
  (try simp only [Int.reduceToNat, Int.toNat_natCast, fp_up_c, fp_up_s, fp_up_i, fp_cp_c, fp_g_s, Nat.reduceBEq, Int.reduceAdd, Int.reduceSub, Int.reduceNeg, Int.reduceMul])
  (repeat' first
      | (refine And.intro (by first | omega | (unfold fp_rg; omega)) ?_; (try intro _); (conv => whnf); (try simp only [Int.reduceToNat, Int.toNat_natCast, fp_up_c, fp_up_s, fp_up_i, fp_cp_c, fp_g_s, Nat.reduceBEq, Int.reduceAdd, Int.reduceSub, Int.reduceNeg, Int.reduceMul]))
      | (refine And.intro (fun _ => ?_) (fun _ => ?_) <;> first | (exfalso; omega) | (rename_i hz_; exact absurd trivial hz_) | ((conv => whnf); (try simp only [Int.reduceToNat, Int.toNat_natCast, fp_up_c, fp_up_s, fp_up_i, fp_cp_c, fp_g_s, Nat.reduceBEq, Int.reduceAdd, Int.reduceSub, Int.reduceNeg, Int.reduceMul])))
      | (refine And.intro (by simp [fp_rg, fp_up, fp_cp] <;> omega) ?_; (conv => whnf); (try simp only [Int.reduceToNat, Int.toNat_natCast, fp_up_c, fp_up_s, fp_up_i, fp_cp_c, fp_g_s, Nat.reduceBEq, Int.reduceAdd, Int.reduceSub, Int.reduceNeg, Int.reduceMul]))
      | fail)
  refine fp_eqQ hq ?_
  refine fp_hext (fun x hx y z => ?_) (fun y z => ?_)
  · simp [fp_up, fp_cp, fp_g, hx]
  · simp only [fp_up, fp_cp, fp_g, true_and, if_true, fp_cpL, hne, false_and, if_false]
    grind
set_option maxHeartbeats 600000 in
set_option maxRecDepth 100000 in
theorem sp_copyFrom {L d g g' : Nat} {H : FpH} {Q : FpQ} (hne : g' ≠ g) (hq : Q none (fp_g H g (fp_cpG (H g) (H g')))) : fp_Wp L (d + 1) 34 0 (fp_en 34 [.inr (g, 0), .inr (g', 0)]) [] H Q := by
  refine fp_go 1000 [] (fun KN KC hN hC => ?_)
  conv => whnf
  (try simp only [Int.reduceToNat, Int.toNat_natCast, fp_up_c, fp_up_s, fp_up_i, fp_cp_c, fp_g_s, Nat.reduceBEq, Int.reduceAdd, Int.reduceSub, Int.reduceNeg, Int.reduceMul])
  (repeat' first
      | (refine And.intro (by first | omega | (unfold fp_rg; omega)) ?_; (try intro _); (conv => whnf); (try simp only [Int.reduceToNat, Int.toNat_natCast, fp_up_c, fp_up_s, fp_up_i, fp_cp_c, fp_g_s, Nat.reduceBEq, Int.reduceAdd, Int.reduceSub, Int.reduceNeg, Int.reduceMul]))
      | (refine And.intro (fun _ => ?_) (fun _ => ?_) <;> first | (exfalso; omega) | (rename_i hz_; exact absurd trivial hz_) | ((conv => whnf); (try simp only [Int.reduceToNat, Int.toNat_natCast, fp_up_c, fp_up_s, fp_up_i, fp_cp_c, fp_g_s, Nat.reduceBEq, Int.reduceAdd, Int.reduceSub, Int.reduceNeg, Int.reduceMul])))
      | (refine And.intro (by simp [fp_rg, fp_up, fp_cp] <;> omega) ?_; (conv => whnf); (try simp only [Int.reduceToNat, Int.toNat_natCast, fp_up_c, fp_up_s, fp_up_i, fp_cp_c, fp_g_s, Nat.reduceBEq, Int.reduceAdd, Int.reduceSub, Int.reduceNeg, Int.reduceMul]))
      | fail)
  refine hC _ _ _ _ ⟨_, rfl, ?_⟩
  refine sp_cpP hne ?_
  conv => whnf
  (try simp only [Int.reduceToNat, Int.toNat_natCast, fp_up_c, fp_up_s, fp_up_i, fp_cp_c, fp_g_s, Nat.reduceBEq, Int.reduceAdd, Int.reduceSub, Int.reduceNeg, Int.reduceMul])
  (repeat' first
      | (refine And.intro (by first | omega | (unfold fp_rg; omega)) ?_; (try intro _); (conv => whnf); (try simp only [Int.reduceToNat, Int.toNat_natCast, fp_up_c, fp_up_s, fp_up_i, fp_cp_c, fp_g_s, Nat.reduceBEq, Int.reduceAdd, Int.reduceSub, Int.reduceNeg, Int.reduceMul]))
      | (refine And.intro (fun _ => ?_) (fun _ => ?_) <;> first | (exfalso; omega) | (rename_i hz_; exact absurd trivial hz_) | ((conv => whnf); (try simp only [Int.reduceToNat, Int.toNat_natCast, fp_up_c, fp_up_s, fp_up_i, fp_cp_c, fp_g_s, Nat.reduceBEq, Int.reduceAdd, Int.reduceSub, Int.reduceNeg, Int.reduceMul])))
      | (refine And.intro (by simp [fp_rg, fp_up, fp_cp] <;> omega) ?_; (conv => whnf); (try simp only [Int.reduceToNat, Int.toNat_natCast, fp_up_c, fp_up_s, fp_up_i, fp_cp_c, fp_g_s, Nat.reduceBEq, Int.reduceAdd, Int.reduceSub, Int.reduceNeg, Int.reduceMul]))
      | fail)
  refine hC _ _ _ _ ⟨_, rfl, ?_⟩
  refine sp_cpS hne ?_
  conv => whnf
  (try simp only [Int.reduceToNat, Int.toNat_natCast, fp_up_c, fp_up_s, fp_up_i, fp_cp_c, fp_g_s, Nat.reduceBEq, Int.reduceAdd, Int.reduceSub, Int.reduceNeg, Int.reduceMul])
  (repeat' first
      | (refine And.intro (by first | omega | (unfold fp_rg; omega)) ?_; (try intro _); (conv => whnf); (try simp only [Int.reduceToNat, Int.toNat_natCast, fp_up_c, fp_up_s, fp_up_i, fp_cp_c, fp_g_s, Nat.reduceBEq, Int.reduceAdd, Int.reduceSub, Int.reduceNeg, Int.reduceMul]))
      | (refine And.intro (fun _ => ?_) (fun _ => ?_) <;> first | (exfalso; omega) | (rename_i hz_; exact absurd trivial hz_) | ((conv => whnf); (try simp only [Int.reduceToNat, Int.toNat_natCast, fp_up_c, fp_up_s, fp_up_i, fp_cp_c, fp_g_s, Nat.reduceBEq, Int.reduceAdd, Int.reduceSub, Int.reduceNeg, Int.reduceMul])))
      | (refine And.intro (by simp [fp_rg, fp_up, fp_cp] <;> omega) ?_; (conv => whnf); (try simp only [Int.reduceToNat, Int.toNat_natCast, fp_up_c, fp_up_s, fp_up_i, fp_cp_c, fp_g_s, Nat.reduceBEq, Int.reduceAdd, Int.reduceSub, Int.reduceNeg, Int.reduceMul]))
      | fail)
  refine hC _ _ _ _ ⟨_, rfl, ?_⟩
  refine sp_cpL hne ?_
  conv => whnf
  (try simp only [Int.reduceToNat, Int.toNat_natCast, fp_up_c, fp_up_s, fp_up_i, fp_cp_c, fp_g_s, Nat.reduceBEq, Int.reduceAdd, Int.reduceSub, Int.reduceNeg, Int.reduceMul])
  (repeat' first
      | (refine And.intro (by first | omega | (unfold fp_rg; omega)) ?_; (try intro _); (conv => whnf); (try simp only [Int.reduceToNat, Int.toNat_natCast, fp_up_c, fp_up_s, fp_up_i, fp_cp_c, fp_g_s, Nat.reduceBEq, Int.reduceAdd, Int.reduceSub, Int.reduceNeg, Int.reduceMul]))
      | (refine And.intro (fun _ => ?_) (fun _ => ?_) <;> first | (exfalso; omega) | (rename_i hz_; exact absurd trivial hz_) | ((conv => whnf); (try simp only [Int.reduceToNat, Int.toNat_natCast, fp_up_c, fp_up_s, fp_up_i, fp_cp_c, fp_g_s, Nat.reduceBEq, Int.reduceAdd, Int.reduceSub, Int.reduceNeg, Int.reduceMul])))
      | (refine And.intro (by simp [fp_rg, fp_up, fp_cp] <;> omega) ?_; (conv => whnf); (try simp only [Int.reduceToNat, Int.toNat_natCast, fp_up_c, fp_up_s, fp_up_i, fp_cp_c, fp_g_s, Nat.reduceBEq, Int.reduceAdd, Int.reduceSub, Int.reduceNeg, Int.reduceMul]))
      | fail)
  refine fp_eqQ hq ?_
  refine fp_hext (fun x hx y z => ?_) (fun y z => ?_)
  · simp [fp_up, fp_cp, fp_g, hx]
  · simp only [fp_up, fp_cp, fp_g, true_and, if_true, fp_cpG, fp_cpP, fp_cpS, fp_cpL, hne, false_and, if_false]
    grind (splits := 40)
set_option maxHeartbeats 600000 in
set_option maxRecDepth 100000 in
theorem sp_tooThick {L d g s : Nat} {f : Int} {H : FpH} {Q : FpQ} (hs : s < 6) (hf : 0 ≤ f ∧ f < 4) (ht : 0 ≤ H g 8 s ∧ H g 8 s ≤ 3) (h1 : H g 13 2 < fp_ly f * H g 8 s → Q (some (.inl 1)) H) (h0 : ¬ H g 13 2 < fp_ly f * H g 8 s → Q (some (.inl 0)) H) : fp_Wp L (d + 1) 35 0 (fp_en 35 [.inr (g, 0), .inl (s : Int), .inl f]) [] H Q := by
  have hp := fp_pw hf
  refine fp_go 1000 [] (fun KN KC hN hC => ?_)
  conv => whnf
  (try simp only [Int.reduceToNat, Int.toNat_natCast, fp_up_c, fp_up_s, fp_up_i, fp_cp_c, fp_g_s, Nat.reduceBEq, Int.reduceAdd, Int.reduceSub, Int.reduceNeg, Int.reduceMul])
  (repeat' first
      | (refine And.intro (by first | omega | (unfold fp_rg; omega)) ?_; (try intro _); (conv => whnf); (try simp only [Int.reduceToNat, Int.toNat_natCast, fp_up_c, fp_up_s, fp_up_i, fp_cp_c, fp_g_s, Nat.reduceBEq, Int.reduceAdd, Int.reduceSub, Int.reduceNeg, Int.reduceMul]))
      | (refine And.intro (fun _ => ?_) (fun _ => ?_) <;> first | (exfalso; omega) | (rename_i hz_; exact absurd trivial hz_) | ((conv => whnf); (try simp only [Int.reduceToNat, Int.toNat_natCast, fp_up_c, fp_up_s, fp_up_i, fp_cp_c, fp_g_s, Nat.reduceBEq, Int.reduceAdd, Int.reduceSub, Int.reduceNeg, Int.reduceMul])))
      | (refine And.intro (by simp [fp_rg, fp_up, fp_cp] <;> omega) ?_; (conv => whnf); (try simp only [Int.reduceToNat, Int.toNat_natCast, fp_up_c, fp_up_s, fp_up_i, fp_cp_c, fp_g_s, Nat.reduceBEq, Int.reduceAdd, Int.reduceSub, Int.reduceNeg, Int.reduceMul]))
      | fail)
  refine hC _ _ _ _ ⟨_, rfl, ?_⟩
  refine sp_layersOf hf ?_
  generalize fp_ly f = z at hp h1 h0 ⊢
  have hz : z = 1 ∨ z = 2 ∨ z = 4 ∨ z = 8 := by omega
  rcases hz with rfl | rfl | rfl | rfl
  all_goals
    conv => whnf
    (try simp only [Int.reduceToNat, Int.toNat_natCast, fp_up_c, fp_up_s, fp_up_i, fp_cp_c, fp_g_s, Nat.reduceBEq, Int.reduceAdd, Int.reduceSub, Int.reduceNeg, Int.reduceMul])
    (repeat' first
        | (refine And.intro (by first | omega | (unfold fp_rg; omega)) ?_; (try intro _); (conv => whnf); (try simp only [Int.reduceToNat, Int.toNat_natCast, fp_up_c, fp_up_s, fp_up_i, fp_cp_c, fp_g_s, Nat.reduceBEq, Int.reduceAdd, Int.reduceSub, Int.reduceNeg, Int.reduceMul]))
        | (refine And.intro (fun _ => ?_) (fun _ => ?_) <;> first | (exfalso; omega) | (rename_i hz_; exact absurd trivial hz_) | ((conv => whnf); (try simp only [Int.reduceToNat, Int.toNat_natCast, fp_up_c, fp_up_s, fp_up_i, fp_cp_c, fp_g_s, Nat.reduceBEq, Int.reduceAdd, Int.reduceSub, Int.reduceNeg, Int.reduceMul])))
        | (refine And.intro (by simp [fp_rg, fp_up, fp_cp] <;> omega) ?_; (conv => whnf); (try simp only [Int.reduceToNat, Int.toNat_natCast, fp_up_c, fp_up_s, fp_up_i, fp_cp_c, fp_g_s, Nat.reduceBEq, Int.reduceAdd, Int.reduceSub, Int.reduceNeg, Int.reduceMul]))
        | fail)
  all_goals first | exact h1 (by omega) | exact h0 (by omega)
def fp_mfd (th bl : Int) : Int := if 8 * th ≤ bl then 3 else if 4 * th ≤ bl then 2 else if 2 * th ≤ bl then 1 else if th ≤ bl then 0 else -5
theorem fp_ly_0 : fp_ly 0 = 1 := by decide
theorem fp_ly_1 : fp_ly 1 = 2 := by decide
theorem fp_ly_2 : fp_ly 2 = 4 := by decide
theorem fp_ly_3 : fp_ly 3 = 8 := by decide
set_option maxHeartbeats 600000 in
set_option maxRecDepth 100000 in
theorem sp_mostFolds {L d g s : Nat} {H : FpH} {Q : FpQ} (hs : s < 6) (ht : 0 ≤ H g 8 s ∧ H g 8 s ≤ 3) (hq : Q (some (.inl (fp_mfd (H g 8 s) (H g 13 2)))) H) : fp_Wp L (d + 2) 36 0 (fp_en 36 [.inr (g, 0), .inl (s : Int)]) [] H Q := by
  unfold fp_mfd at hq
  refine fp_go 1000 [] (fun KN KC hN hC => ?_)
  conv => whnf
  (try simp only [Int.reduceToNat, Int.toNat_natCast, fp_up_c, fp_up_s, fp_up_i, fp_cp_c, fp_g_s, Nat.reduceBEq, Int.reduceAdd, Int.reduceSub, Int.reduceNeg, Int.reduceMul])
  (repeat' first
      | (refine And.intro (by first | omega | (unfold fp_rg; omega)) ?_; (try intro _); (conv => whnf); (try simp only [Int.reduceToNat, Int.toNat_natCast, fp_up_c, fp_up_s, fp_up_i, fp_cp_c, fp_g_s, Nat.reduceBEq, Int.reduceAdd, Int.reduceSub, Int.reduceNeg, Int.reduceMul]))
      | (refine And.intro (fun _ => ?_) (fun _ => ?_) <;> first | (exfalso; omega) | (rename_i hz_; exact absurd trivial hz_) | ((conv => whnf); (try simp only [Int.reduceToNat, Int.toNat_natCast, fp_up_c, fp_up_s, fp_up_i, fp_cp_c, fp_g_s, Nat.reduceBEq, Int.reduceAdd, Int.reduceSub, Int.reduceNeg, Int.reduceMul])))
      | (refine And.intro (by simp [fp_rg, fp_up, fp_cp] <;> omega) ?_; (conv => whnf); (try simp only [Int.reduceToNat, Int.toNat_natCast, fp_up_c, fp_up_s, fp_up_i, fp_cp_c, fp_g_s, Nat.reduceBEq, Int.reduceAdd, Int.reduceSub, Int.reduceNeg, Int.reduceMul]))
      | fail)
  refine hC _ _ _ _ ⟨_, rfl, ?_⟩
  refine sp_tooThick hs (by omega) ht (fun h3 => ?_) (fun h3 => ?_)
  all_goals
    rw [fp_ly_3] at h3
    conv => whnf
    (try simp only [Int.reduceToNat, Int.toNat_natCast, fp_up_c, fp_up_s, fp_up_i, fp_cp_c, fp_g_s, Nat.reduceBEq, Int.reduceAdd, Int.reduceSub, Int.reduceNeg, Int.reduceMul])
    (repeat' first
        | (refine And.intro (by first | omega | (unfold fp_rg; omega)) ?_; (try intro _); (conv => whnf); (try simp only [Int.reduceToNat, Int.toNat_natCast, fp_up_c, fp_up_s, fp_up_i, fp_cp_c, fp_g_s, Nat.reduceBEq, Int.reduceAdd, Int.reduceSub, Int.reduceNeg, Int.reduceMul]))
        | (refine And.intro (fun _ => ?_) (fun _ => ?_) <;> first | (exfalso; omega) | (rename_i hz_; exact absurd trivial hz_) | ((conv => whnf); (try simp only [Int.reduceToNat, Int.toNat_natCast, fp_up_c, fp_up_s, fp_up_i, fp_cp_c, fp_g_s, Nat.reduceBEq, Int.reduceAdd, Int.reduceSub, Int.reduceNeg, Int.reduceMul])))
        | (refine And.intro (by simp [fp_rg, fp_up, fp_cp] <;> omega) ?_; (conv => whnf); (try simp only [Int.reduceToNat, Int.toNat_natCast, fp_up_c, fp_up_s, fp_up_i, fp_cp_c, fp_g_s, Nat.reduceBEq, Int.reduceAdd, Int.reduceSub, Int.reduceNeg, Int.reduceMul]))
        | fail)
  rotate_left
  · rw [if_pos (by omega)] at hq; exact hq
  refine hC _ _ _ _ ⟨_, rfl, ?_⟩
  refine sp_tooThick hs (by omega) ht (fun h2 => ?_) (fun h2 => ?_)
  all_goals
    rw [fp_ly_2] at h2
    conv => whnf
    (try simp only [Int.reduceToNat, Int.toNat_natCast, fp_up_c, fp_up_s, fp_up_i, fp_cp_c, fp_g_s, Nat.reduceBEq, Int.reduceAdd, Int.reduceSub, Int.reduceNeg, Int.reduceMul])
    (repeat' first
        | (refine And.intro (by first | omega | (unfold fp_rg; omega)) ?_; (try intro _); (conv => whnf); (try simp only [Int.reduceToNat, Int.toNat_natCast, fp_up_c, fp_up_s, fp_up_i, fp_cp_c, fp_g_s, Nat.reduceBEq, Int.reduceAdd, Int.reduceSub, Int.reduceNeg, Int.reduceMul]))
        | (refine And.intro (fun _ => ?_) (fun _ => ?_) <;> first | (exfalso; omega) | (rename_i hz_; exact absurd trivial hz_) | ((conv => whnf); (try simp only [Int.reduceToNat, Int.toNat_natCast, fp_up_c, fp_up_s, fp_up_i, fp_cp_c, fp_g_s, Nat.reduceBEq, Int.reduceAdd, Int.reduceSub, Int.reduceNeg, Int.reduceMul])))
        | (refine And.intro (by simp [fp_rg, fp_up, fp_cp] <;> omega) ?_; (conv => whnf); (try simp only [Int.reduceToNat, Int.toNat_natCast, fp_up_c, fp_up_s, fp_up_i, fp_cp_c, fp_g_s, Nat.reduceBEq, Int.reduceAdd, Int.reduceSub, Int.reduceNeg, Int.reduceMul]))
        | fail)
  rotate_left
  · rw [if_neg (by omega), if_pos (by omega)] at hq; exact hq
  refine hC _ _ _ _ ⟨_, rfl, ?_⟩
  refine sp_tooThick hs (by omega) ht (fun h1 => ?_) (fun h1 => ?_)
  all_goals
    rw [fp_ly_1] at h1
    conv => whnf
    (try simp only [Int.reduceToNat, Int.toNat_natCast, fp_up_c, fp_up_s, fp_up_i, fp_cp_c, fp_g_s, Nat.reduceBEq, Int.reduceAdd, Int.reduceSub, Int.reduceNeg, Int.reduceMul])
    (repeat' first
        | (refine And.intro (by first | omega | (unfold fp_rg; omega)) ?_; (try intro _); (conv => whnf); (try simp only [Int.reduceToNat, Int.toNat_natCast, fp_up_c, fp_up_s, fp_up_i, fp_cp_c, fp_g_s, Nat.reduceBEq, Int.reduceAdd, Int.reduceSub, Int.reduceNeg, Int.reduceMul]))
        | (refine And.intro (fun _ => ?_) (fun _ => ?_) <;> first | (exfalso; omega) | (rename_i hz_; exact absurd trivial hz_) | ((conv => whnf); (try simp only [Int.reduceToNat, Int.toNat_natCast, fp_up_c, fp_up_s, fp_up_i, fp_cp_c, fp_g_s, Nat.reduceBEq, Int.reduceAdd, Int.reduceSub, Int.reduceNeg, Int.reduceMul])))
        | (refine And.intro (by simp [fp_rg, fp_up, fp_cp] <;> omega) ?_; (conv => whnf); (try simp only [Int.reduceToNat, Int.toNat_natCast, fp_up_c, fp_up_s, fp_up_i, fp_cp_c, fp_g_s, Nat.reduceBEq, Int.reduceAdd, Int.reduceSub, Int.reduceNeg, Int.reduceMul]))
        | fail)
  rotate_left
  · rw [if_neg (by omega), if_neg (by omega), if_pos (by omega)] at hq; exact hq
  refine hC _ _ _ _ ⟨_, rfl, ?_⟩
  refine sp_tooThick hs (by omega) ht (fun h0 => ?_) (fun h0 => ?_)
  all_goals
    rw [fp_ly_0] at h0
    conv => whnf
    (try simp only [Int.reduceToNat, Int.toNat_natCast, fp_up_c, fp_up_s, fp_up_i, fp_cp_c, fp_g_s, Nat.reduceBEq, Int.reduceAdd, Int.reduceSub, Int.reduceNeg, Int.reduceMul])
    (repeat' first
        | (refine And.intro (by first | omega | (unfold fp_rg; omega)) ?_; (try intro _); (conv => whnf); (try simp only [Int.reduceToNat, Int.toNat_natCast, fp_up_c, fp_up_s, fp_up_i, fp_cp_c, fp_g_s, Nat.reduceBEq, Int.reduceAdd, Int.reduceSub, Int.reduceNeg, Int.reduceMul]))
        | (refine And.intro (fun _ => ?_) (fun _ => ?_) <;> first | (exfalso; omega) | (rename_i hz_; exact absurd trivial hz_) | ((conv => whnf); (try simp only [Int.reduceToNat, Int.toNat_natCast, fp_up_c, fp_up_s, fp_up_i, fp_cp_c, fp_g_s, Nat.reduceBEq, Int.reduceAdd, Int.reduceSub, Int.reduceNeg, Int.reduceMul])))
        | (refine And.intro (by simp [fp_rg, fp_up, fp_cp] <;> omega) ?_; (conv => whnf); (try simp only [Int.reduceToNat, Int.toNat_natCast, fp_up_c, fp_up_s, fp_up_i, fp_cp_c, fp_g_s, Nat.reduceBEq, Int.reduceAdd, Int.reduceSub, Int.reduceNeg, Int.reduceMul]))
        | fail)
  · rw [if_neg (by omega), if_neg (by omega), if_neg (by omega), if_neg (by omega)] at hq; exact hq
  · rw [if_neg (by omega), if_neg (by omega), if_neg (by omega), if_pos (by omega)] at hq; exact hq
theorem fp_mx_le {f : Nat → Int} {B : Int} (hB : 0 ≤ B) : ∀ n : Nat, (∀ i, i < n → f i ≤ B) → 0 ≤ fp_mx f n ∧ fp_mx f n ≤ B
  | 0, _ => by simp [fp_mx, hB]
  | n + 1, h => by
    have h1 := fp_mx_le hB n (fun i hi => h i (by omega))
    have h2 := h n (by omega)
    simp only [fp_mx]
    split <;> omega
/-- the length that a cut takes -/
def fp_tkn (G : FpG) (p : Nat) (f : Int) : Int := fp_ly f * (fp_mx (fun j => G 2 (8 * p + j)) 8 + G 13 0 + f * G 13 1)
def fp_why (G : FpG) (p s : Nat) (f : Int) : Int := if G 13 2 < fp_ly f * G 8 s then 1 else if G 7 s < fp_tkn G p f then 2 else 0
/-- what a state keeps to, as far as cuts ask -/
def fp_okc2 (G : FpG) (p : Nat) : Prop := (∀ j, j < 8 → G 2 (8 * p + j) ≤ 9) ∧ 0 ≤ G 13 0 ∧ G 13 0 ≤ 9 ∧ 0 ≤ G 13 1 ∧ G 13 1 ≤ 3
theorem fp_tkn_le {G : FpG} {p : Nat} {f : Int} (h : fp_okc2 G p) (hf : 0 ≤ f ∧ f < 4) : 0 ≤ fp_tkn G p f ∧ fp_tkn G p f ≤ 216 := by
  obtain ⟨h1, h2, h3, h4, h5⟩ := h
  have hm := fp_mx_le (f := fun j => G 2 (8 * p + j)) (B := 9) (by omega) 8 h1
  have hp := fp_pw hf
  unfold fp_tkn
  rcases hp with ⟨rfl, e⟩ | ⟨rfl, e⟩ | ⟨rfl, e⟩ | ⟨rfl, e⟩ <;> rw [e] <;> omega
set_option maxHeartbeats 600000 in
set_option maxRecDepth 100000 in
theorem sp_lengthTaken {L d g p : Nat} {f : Int} {H : FpH} {Q : FpQ} (hp : p < 10) (hf : 0 ≤ f ∧ f < 4) (ho : fp_okc2 (H g) p) (hq : Q (some (.inl (fp_tkn (H g) p f))) H) : fp_Wp L (d + 2) 37 0 (fp_en 37 [.inr (g, 0), .inl (p : Int), .inl f]) [] H Q := by
  obtain ⟨h1, h2, h3, h4, h5⟩ := ho
  have hm := fp_mx_le (f := fun j => H g 2 (8 * p + j)) (B := 9) (by omega) 8 h1
  have hpw := fp_pw hf
  unfold fp_tkn at hq
  refine fp_go 1000 [] (fun KN KC hN hC => ?_)
  conv => whnf
  (try simp only [Int.reduceToNat, Int.toNat_natCast, fp_up_c, fp_up_s, fp_up_i, fp_cp_c, fp_g_s, Nat.reduceBEq, Int.reduceAdd, Int.reduceSub, Int.reduceNeg, Int.reduceMul])
  (repeat' first
      | (refine And.intro (by first | omega | (unfold fp_rg; omega)) ?_; (try intro _); (conv => whnf); (try simp only [Int.reduceToNat, Int.toNat_natCast, fp_up_c, fp_up_s, fp_up_i, fp_cp_c, fp_g_s, Nat.reduceBEq, Int.reduceAdd, Int.reduceSub, Int.reduceNeg, Int.reduceMul]))
      | (refine And.intro (fun _ => ?_) (fun _ => ?_) <;> first | (exfalso; omega) | (rename_i hz_; exact absurd trivial hz_) | ((conv => whnf); (try simp only [Int.reduceToNat, Int.toNat_natCast, fp_up_c, fp_up_s, fp_up_i, fp_cp_c, fp_g_s, Nat.reduceBEq, Int.reduceAdd, Int.reduceSub, Int.reduceNeg, Int.reduceMul])))
      | (refine And.intro (by simp [fp_rg, fp_up, fp_cp] <;> omega) ?_; (conv => whnf); (try simp only [Int.reduceToNat, Int.toNat_natCast, fp_up_c, fp_up_s, fp_up_i, fp_cp_c, fp_g_s, Nat.reduceBEq, Int.reduceAdd, Int.reduceSub, Int.reduceNeg, Int.reduceMul]))
      | fail)
  refine hC _ _ _ _ ⟨_, rfl, ?_⟩
  refine sp_greatest (by omega) ?_
  simp only [Int.toNat_natCast]
  generalize fp_mx (fun j => H g 2 (8 * p + j)) 8 = z at hm hq ⊢
  rcases hpw with ⟨rfl, e⟩ | ⟨rfl, e⟩ | ⟨rfl, e⟩ | ⟨rfl, e⟩
  all_goals
    rw [e] at hq
    conv => whnf
    (try simp only [Int.reduceToNat, Int.toNat_natCast, fp_up_c, fp_up_s, fp_up_i, fp_cp_c, fp_g_s, Nat.reduceBEq, Int.reduceAdd, Int.reduceSub, Int.reduceNeg, Int.reduceMul])
    (repeat' first
        | (refine And.intro (by first | omega | (unfold fp_rg; omega)) ?_; (try intro _); (conv => whnf); (try simp only [Int.reduceToNat, Int.toNat_natCast, fp_up_c, fp_up_s, fp_up_i, fp_cp_c, fp_g_s, Nat.reduceBEq, Int.reduceAdd, Int.reduceSub, Int.reduceNeg, Int.reduceMul]))
        | (refine And.intro (fun _ => ?_) (fun _ => ?_) <;> first | (exfalso; omega) | (rename_i hz_; exact absurd trivial hz_) | ((conv => whnf); (try simp only [Int.reduceToNat, Int.toNat_natCast, fp_up_c, fp_up_s, fp_up_i, fp_cp_c, fp_g_s, Nat.reduceBEq, Int.reduceAdd, Int.reduceSub, Int.reduceNeg, Int.reduceMul])))
        | (refine And.intro (by simp [fp_rg, fp_up, fp_cp] <;> omega) ?_; (conv => whnf); (try simp only [Int.reduceToNat, Int.toNat_natCast, fp_up_c, fp_up_s, fp_up_i, fp_cp_c, fp_g_s, Nat.reduceBEq, Int.reduceAdd, Int.reduceSub, Int.reduceNeg, Int.reduceMul]))
        | fail)
    refine hC _ _ _ _ ⟨_, rfl, ?_⟩
    refine sp_layersOf hf ?_
    rw [e]
    conv => whnf
    (try simp only [Int.reduceToNat, Int.toNat_natCast, fp_up_c, fp_up_s, fp_up_i, fp_cp_c, fp_g_s, Nat.reduceBEq, Int.reduceAdd, Int.reduceSub, Int.reduceNeg, Int.reduceMul])
    (repeat' first
        | (refine And.intro (by first | omega | (unfold fp_rg; omega)) ?_; (try intro _); (conv => whnf); (try simp only [Int.reduceToNat, Int.toNat_natCast, fp_up_c, fp_up_s, fp_up_i, fp_cp_c, fp_g_s, Nat.reduceBEq, Int.reduceAdd, Int.reduceSub, Int.reduceNeg, Int.reduceMul]))
        | (refine And.intro (fun _ => ?_) (fun _ => ?_) <;> first | (exfalso; omega) | (rename_i hz_; exact absurd trivial hz_) | ((conv => whnf); (try simp only [Int.reduceToNat, Int.toNat_natCast, fp_up_c, fp_up_s, fp_up_i, fp_cp_c, fp_g_s, Nat.reduceBEq, Int.reduceAdd, Int.reduceSub, Int.reduceNeg, Int.reduceMul])))
        | (refine And.intro (by simp [fp_rg, fp_up, fp_cp] <;> omega) ?_; (conv => whnf); (try simp only [Int.reduceToNat, Int.toNat_natCast, fp_up_c, fp_up_s, fp_up_i, fp_cp_c, fp_g_s, Nat.reduceBEq, Int.reduceAdd, Int.reduceSub, Int.reduceNeg, Int.reduceMul]))
        | fail)
    exact hq
set_option maxHeartbeats 600000 in
set_option maxRecDepth 100000 in
theorem sp_why {L d g p s : Nat} {f : Int} {H : FpH} {Q : FpQ} (hp : p < 10) (hs : s < 6) (hf : 0 ≤ f ∧ f < 4) (ho : fp_okc2 (H g) p) (ht : 0 ≤ H g 8 s ∧ H g 8 s ≤ 3) (hq : Q (some (.inl (fp_why (H g) p s f))) H) : fp_Wp L (d + 3) 38 0 (fp_en 38 [.inr (g, 0), .inl (p : Int), .inl (s : Int), .inl f]) [] H Q := by
  unfold fp_why at hq
  refine fp_go 1000 [] (fun KN KC hN hC => ?_)
  conv => whnf
  (try simp only [Int.reduceToNat, Int.toNat_natCast, fp_up_c, fp_up_s, fp_up_i, fp_cp_c, fp_g_s, Nat.reduceBEq, Int.reduceAdd, Int.reduceSub, Int.reduceNeg, Int.reduceMul])
  (repeat' first
      | (refine And.intro (by first | omega | (unfold fp_rg; omega)) ?_; (try intro _); (conv => whnf); (try simp only [Int.reduceToNat, Int.toNat_natCast, fp_up_c, fp_up_s, fp_up_i, fp_cp_c, fp_g_s, Nat.reduceBEq, Int.reduceAdd, Int.reduceSub, Int.reduceNeg, Int.reduceMul]))
      | (refine And.intro (fun _ => ?_) (fun _ => ?_) <;> first | (exfalso; omega) | (rename_i hz_; exact absurd trivial hz_) | ((conv => whnf); (try simp only [Int.reduceToNat, Int.toNat_natCast, fp_up_c, fp_up_s, fp_up_i, fp_cp_c, fp_g_s, Nat.reduceBEq, Int.reduceAdd, Int.reduceSub, Int.reduceNeg, Int.reduceMul])))
      | (refine And.intro (by simp [fp_rg, fp_up, fp_cp] <;> omega) ?_; (conv => whnf); (try simp only [Int.reduceToNat, Int.toNat_natCast, fp_up_c, fp_up_s, fp_up_i, fp_cp_c, fp_g_s, Nat.reduceBEq, Int.reduceAdd, Int.reduceSub, Int.reduceNeg, Int.reduceMul]))
      | fail)
  refine hC _ _ _ _ ⟨_, rfl, ?_⟩
  refine sp_tooThick hs hf ht (fun hh => ?_) (fun hh => ?_)
  · conv => whnf
    (try simp only [Int.reduceToNat, Int.toNat_natCast, fp_up_c, fp_up_s, fp_up_i, fp_cp_c, fp_g_s, Nat.reduceBEq, Int.reduceAdd, Int.reduceSub, Int.reduceNeg, Int.reduceMul])
    (repeat' first
        | (refine And.intro (by first | omega | (unfold fp_rg; omega)) ?_; (try intro _); (conv => whnf); (try simp only [Int.reduceToNat, Int.toNat_natCast, fp_up_c, fp_up_s, fp_up_i, fp_cp_c, fp_g_s, Nat.reduceBEq, Int.reduceAdd, Int.reduceSub, Int.reduceNeg, Int.reduceMul]))
        | (refine And.intro (fun _ => ?_) (fun _ => ?_) <;> first | (exfalso; omega) | (rename_i hz_; exact absurd trivial hz_) | ((conv => whnf); (try simp only [Int.reduceToNat, Int.toNat_natCast, fp_up_c, fp_up_s, fp_up_i, fp_cp_c, fp_g_s, Nat.reduceBEq, Int.reduceAdd, Int.reduceSub, Int.reduceNeg, Int.reduceMul])))
        | (refine And.intro (by simp [fp_rg, fp_up, fp_cp] <;> omega) ?_; (conv => whnf); (try simp only [Int.reduceToNat, Int.toNat_natCast, fp_up_c, fp_up_s, fp_up_i, fp_cp_c, fp_g_s, Nat.reduceBEq, Int.reduceAdd, Int.reduceSub, Int.reduceNeg, Int.reduceMul]))
        | fail)
    rw [if_pos hh] at hq; exact hq
  · conv => whnf
    (try simp only [Int.reduceToNat, Int.toNat_natCast, fp_up_c, fp_up_s, fp_up_i, fp_cp_c, fp_g_s, Nat.reduceBEq, Int.reduceAdd, Int.reduceSub, Int.reduceNeg, Int.reduceMul])
    (repeat' first
        | (refine And.intro (by first | omega | (unfold fp_rg; omega)) ?_; (try intro _); (conv => whnf); (try simp only [Int.reduceToNat, Int.toNat_natCast, fp_up_c, fp_up_s, fp_up_i, fp_cp_c, fp_g_s, Nat.reduceBEq, Int.reduceAdd, Int.reduceSub, Int.reduceNeg, Int.reduceMul]))
        | (refine And.intro (fun _ => ?_) (fun _ => ?_) <;> first | (exfalso; omega) | (rename_i hz_; exact absurd trivial hz_) | ((conv => whnf); (try simp only [Int.reduceToNat, Int.toNat_natCast, fp_up_c, fp_up_s, fp_up_i, fp_cp_c, fp_g_s, Nat.reduceBEq, Int.reduceAdd, Int.reduceSub, Int.reduceNeg, Int.reduceMul])))
        | (refine And.intro (by simp [fp_rg, fp_up, fp_cp] <;> omega) ?_; (conv => whnf); (try simp only [Int.reduceToNat, Int.toNat_natCast, fp_up_c, fp_up_s, fp_up_i, fp_cp_c, fp_g_s, Nat.reduceBEq, Int.reduceAdd, Int.reduceSub, Int.reduceNeg, Int.reduceMul]))
        | fail)
    rw [if_neg hh] at hq
    refine hC _ _ _ _ ⟨_, rfl, ?_⟩
    refine sp_lengthTaken hp hf ho ?_
    conv => whnf
    (try simp only [Int.reduceToNat, Int.toNat_natCast, fp_up_c, fp_up_s, fp_up_i, fp_cp_c, fp_g_s, Nat.reduceBEq, Int.reduceAdd, Int.reduceSub, Int.reduceNeg, Int.reduceMul])
    (repeat' first
        | (refine And.intro (by first | omega | (unfold fp_rg; omega)) ?_; (try intro _); (conv => whnf); (try simp only [Int.reduceToNat, Int.toNat_natCast, fp_up_c, fp_up_s, fp_up_i, fp_cp_c, fp_g_s, Nat.reduceBEq, Int.reduceAdd, Int.reduceSub, Int.reduceNeg, Int.reduceMul]))
        | (refine And.intro (fun _ => ?_) (fun _ => ?_) <;> first | (exfalso; omega) | (rename_i hz_; exact absurd trivial hz_) | ((conv => whnf); (try simp only [Int.reduceToNat, Int.toNat_natCast, fp_up_c, fp_up_s, fp_up_i, fp_cp_c, fp_g_s, Nat.reduceBEq, Int.reduceAdd, Int.reduceSub, Int.reduceNeg, Int.reduceMul])))
        | (refine And.intro (by simp [fp_rg, fp_up, fp_cp] <;> omega) ?_; (conv => whnf); (try simp only [Int.reduceToNat, Int.toNat_natCast, fp_up_c, fp_up_s, fp_up_i, fp_cp_c, fp_g_s, Nat.reduceBEq, Int.reduceAdd, Int.reduceSub, Int.reduceNeg, Int.reduceMul]))
        | fail)
    · rename_i hb
      rw [if_pos hb] at hq; exact hq
    · rename_i hb
      rw [if_neg hb] at hq; exact hq
end
section
/-! time, cuts, serving -/
theorem fp_gu_c {G : FpG} {c i c' i' : Nat} {v : Int} (h : (c' == c) = false) : fp_gu G c i v c' i' = G c' i' := by
  have : c' ≠ c := fun e => by subst e; simp at h
  simp [fp_gu, this]
theorem fp_gu_s {G : FpG} {c i : Nat} {v : Int} : fp_gu G c i v c i = v := by simp [fp_gu]
theorem fp_gu_i {G : FpG} {c i c' i' : Nat} {v : Int} (h : (i' == i) = false) : fp_gu G c i v c' i' = G c' i' := by
  have : i' ≠ i := fun e => by subst e; simp at h
  simp [fp_gu, this]
theorem fp_lrem_o {G : FpG} {k c i : Nat} (h9 : (c == 9) = false) (h10 : (c == 10) = false) (h11 : (c == 11) = false) (h12 : (c == 12) = false) : fp_lrem G k c i = G c i := by
  simp only [beq_eq_false_iff_ne] at h9 h10 h11 h12
  simp [fp_lrem, h9, h10, h11, h12]
theorem fp_lose_o {t : Int} {c i : Nat} (h9 : (c == 9) = false) (h10 : (c == 10) = false) (h11 : (c == 11) = false) (h12 : (c == 12) = false) : ∀ (n : Nat) (G : FpG), fp_lose t n G c i = G c i
  | 0, G => rfl
  | n + 1, G => by
    simp only [fp_lose]
    split
    · rw [fp_lose_o h9 h10 h11 h12 n, fp_lrem_o h9 h10 h11 h12, fp_gu_c h12]
    · rw [fp_lose_o h9 h10 h11 h12 n, fp_gu_c h12]
theorem fp_lose_z {t : Int} : ∀ (n : Nat) (G : FpG), G 9 3 - n ≤ fp_lose t n G 9 3 ∧ fp_lose t n G 9 3 ≤ G 9 3
  | 0, G => by simp [fp_lose]
  | n + 1, G => by
    simp only [fp_lose]
    split
    · have h := fp_lose_z (t := t) n (fp_lrem (fp_gu G 12 n (G 12 n - t)) n)
      have e : fp_lrem (fp_gu G 12 n (G 12 n - t)) n 9 3 = G 9 3 - 1 := by simp [fp_lrem, fp_gu]
      rw [e] at h
      omega
    · have h := fp_lose_z (t := t) n (fp_gu G 12 n (G 12 n - t))
      have e : (fp_gu G 12 n (G 12 n - t)) 9 3 = G 9 3 := by simp [fp_gu]
      rw [e] at h
      omega
theorem fp_srem_o {G : FpG} {k c i : Nat} (h9 : (c == 6) = false) (h10 : (c == 7) = false) (h11 : (c == 8) = false) : fp_srem G k c i = G c i := by
  simp only [beq_eq_false_iff_ne] at h9 h10 h11
  simp [fp_srem, h9, h10, h11]
theorem fp_scut_o {G : FpG} {k c i : Nat} {v : Int} (h9 : (c == 6) = false) (h10 : (c == 7) = false) (h11 : (c == 8) = false) : fp_scut G k v c i = G c i := by
  unfold fp_scut
  split
  · rw [fp_srem_o h9 h10 h11, fp_gu_c h10]
  · rw [fp_gu_c h10]
theorem fp_tk_o {G : FpG} {p c i : Nat} {w : Int} (h9 : (c == 3) = false) (h10 : (c == 4) = false) : fp_tk G p w c i = G c i := by
  unfold fp_tk fp_tkl
  split <;> split <;> (try rw [fp_gu_c h10]) <;> (try rw [fp_gu_c h9]) <;> (try rfl)
def fp_tp (G : FpG) (t : Int) : FpG :=
  fp_gu (fp_lose t (G 9 3).toNat (fp_gu G 0 5 (G 0 5 + t))) 0 7 (G 0 7 + (G 9 3 - fp_lose t (G 9 3).toNat (fp_gu G 0 5 (G 0 5 + t)) 9 3))
set_option maxHeartbeats 600000 in
set_option maxRecDepth 100000 in
theorem sp_timePass {L d g : Nat} {t : Int} {H : FpH} {Q : FpQ} (ht : 1 ≤ t ∧ t ≤ 4) (h : 0 ≤ H g 9 3 ∧ H g 9 3 ≤ 12) (hp : ∀ t : Nat, (t : Int) < H g 9 3 → 1 ≤ H g 12 t ∧ H g 12 t ≤ 99) (hc : 0 ≤ H g 0 5 ∧ H g 0 5 ≤ 2000000 ∧ 0 ≤ H g 0 7 ∧ H g 0 7 ≤ 2000000) (hq : Q none (fp_g H g (fp_tp (H g) t))) : fp_Wp L (d + 2) 40 0 (fp_en 40 [.inr (g, 0), .inl t]) [] H Q := by
  refine fp_go 1000 [] (fun KN KC hN hC => ?_)
  conv => whnf
  (try simp only [Int.reduceToNat, Int.toNat_natCast, fp_up_c, fp_up_s, fp_up_i, fp_cp_c, fp_g_s, Nat.reduceBEq, Int.reduceAdd, Int.reduceSub, Int.reduceNeg, Int.reduceMul, fp_gu_c, fp_gu_s, fp_lose_o, fp_scut_o, fp_tk_o, fp_lrem_o])
  (repeat' first
      | (refine And.intro (by first | omega | (unfold fp_rg; omega)) ?_; (try intro _); (conv => whnf); (try simp only [Int.reduceToNat, Int.toNat_natCast, fp_up_c, fp_up_s, fp_up_i, fp_cp_c, fp_g_s, Nat.reduceBEq, Int.reduceAdd, Int.reduceSub, Int.reduceNeg, Int.reduceMul, fp_gu_c, fp_gu_s, fp_lose_o, fp_scut_o, fp_tk_o, fp_lrem_o]))
      | (refine And.intro (fun _ => ?_) (fun _ => ?_) <;> first | (exfalso; omega) | (rename_i hz_; exact absurd trivial hz_) | ((conv => whnf); (try simp only [Int.reduceToNat, Int.toNat_natCast, fp_up_c, fp_up_s, fp_up_i, fp_cp_c, fp_g_s, Nat.reduceBEq, Int.reduceAdd, Int.reduceSub, Int.reduceNeg, Int.reduceMul, fp_gu_c, fp_gu_s, fp_lose_o, fp_scut_o, fp_tk_o, fp_lrem_o])))
      | (refine And.intro (by simp [fp_rg, fp_up, fp_cp] <;> omega) ?_; (conv => whnf); (try simp only [Int.reduceToNat, Int.toNat_natCast, fp_up_c, fp_up_s, fp_up_i, fp_cp_c, fp_g_s, Nat.reduceBEq, Int.reduceAdd, Int.reduceSub, Int.reduceNeg, Int.reduceMul, fp_gu_c, fp_gu_s, fp_lose_o, fp_scut_o, fp_tk_o, fp_lrem_o]))
      | fail)
  have hz := fp_lose_z (t := t) (H g 9 3).toNat (fp_gu (H g) 0 5 (H g 0 5 + t))
  rw [fp_gu_c (by rfl)] at hz
  refine hC _ _ _ _ ⟨_, rfl, ?_⟩
  refine sp_loseOver ht (by simp [fp_up]; exact h) (fun t ht => by simp [fp_up] at ht ⊢; exact hp t ht) ?_
  simp only [fp_up_g, fp_g_s, fp_g_g, fp_gu_c, Nat.reduceBEq]
  conv => whnf
  (try simp only [Int.reduceToNat, Int.toNat_natCast, fp_up_c, fp_up_s, fp_up_i, fp_cp_c, fp_g_s, Nat.reduceBEq, Int.reduceAdd, Int.reduceSub, Int.reduceNeg, Int.reduceMul, fp_gu_c, fp_gu_s, fp_lose_o, fp_scut_o, fp_tk_o, fp_lrem_o])
  (repeat' first
      | (refine And.intro (by first | omega | (unfold fp_rg; omega)) ?_; (try intro _); (conv => whnf); (try simp only [Int.reduceToNat, Int.toNat_natCast, fp_up_c, fp_up_s, fp_up_i, fp_cp_c, fp_g_s, Nat.reduceBEq, Int.reduceAdd, Int.reduceSub, Int.reduceNeg, Int.reduceMul, fp_gu_c, fp_gu_s, fp_lose_o, fp_scut_o, fp_tk_o, fp_lrem_o]))
      | (refine And.intro (fun _ => ?_) (fun _ => ?_) <;> first | (exfalso; omega) | (rename_i hz_; exact absurd trivial hz_) | ((conv => whnf); (try simp only [Int.reduceToNat, Int.toNat_natCast, fp_up_c, fp_up_s, fp_up_i, fp_cp_c, fp_g_s, Nat.reduceBEq, Int.reduceAdd, Int.reduceSub, Int.reduceNeg, Int.reduceMul, fp_gu_c, fp_gu_s, fp_lose_o, fp_scut_o, fp_tk_o, fp_lrem_o])))
      | (refine And.intro (by simp [fp_rg, fp_up, fp_cp] <;> omega) ?_; (conv => whnf); (try simp only [Int.reduceToNat, Int.toNat_natCast, fp_up_c, fp_up_s, fp_up_i, fp_cp_c, fp_g_s, Nat.reduceBEq, Int.reduceAdd, Int.reduceSub, Int.reduceNeg, Int.reduceMul, fp_gu_c, fp_gu_s, fp_lose_o, fp_scut_o, fp_tk_o, fp_lrem_o]))
      | fail)
  simp only [fp_up_g, fp_g_s, fp_g_g, fp_gu_c, Nat.reduceBEq]
  exact hq
def fp_mk (G : FpG) (p s : Nat) (f : Int) : FpG :=
  fp_tp (fp_gu (fp_gu (fp_gu (fp_gu (fp_scut G s (fp_tkn G p f)) 0 8 (G 0 8 + fp_tkn G p f)) 3 p (G 3 p + (fp_ly f + 1) / 2)) 4 p (G 4 p + fp_ly f / 2)) 5 p (G 5 p + fp_ly f)) (1 + f)
/-- numbers that stay small -/
def fp_sml (G : FpG) : Prop := (∀ p, p < 10 → (0 ≤ G 3 p ∧ G 3 p ≤ 2000000) ∧ (0 ≤ G 4 p ∧ G 4 p ≤ 2000000) ∧ (0 ≤ G 5 p ∧ G 5 p ≤ 2000000)) ∧ (∀ k, 4 ≤ k → k < 9 → 0 ≤ G 0 k ∧ G 0 k ≤ 2000000)
set_option maxHeartbeats 600000 in
set_option maxRecDepth 100000 in
theorem sp_makeCut {L d g p s : Nat} {f : Int} {H : FpH} {Q : FpQ} (hp : p < 10) (hf : 0 ≤ f ∧ f < 4) (ho : fp_okc2 (H g) p) (hs : (s : Int) < H g 6 2 ∧ H g 6 2 ≤ 6) (hw : fp_tkn (H g) p f ≤ H g 7 s ∧ H g 7 s ≤ 200) (hl : 0 ≤ H g 9 3 ∧ H g 9 3 ≤ 12) (hpt : ∀ t : Nat, (t : Int) < H g 9 3 → 1 ≤ H g 12 t ∧ H g 12 t ≤ 99) (hsm : fp_sml (H g)) (hq : Q none (fp_g H g (fp_mk (H g) p s f))) : fp_Wp L (d + 3) 39 0 (fp_en 39 [.inr (g, 0), .inl (p : Int), .inl (s : Int), .inl f]) [] H Q := by
  have hk := fp_tkn_le ho hf
  have hpw := fp_pw hf
  have hp3 := hsm.1 p hp
  have h08 := hsm.2 8 (by omega) (by omega)
  have h05 := hsm.2 5 (by omega) (by omega)
  have h07 := hsm.2 7 (by omega) (by omega)
  unfold fp_mk at hq
  refine fp_go 1000 [] (fun KN KC hN hC => ?_)
  conv => whnf
  (try simp only [Int.reduceToNat, Int.toNat_natCast, fp_up_c, fp_up_s, fp_up_i, fp_cp_c, fp_g_s, Nat.reduceBEq, Int.reduceAdd, Int.reduceSub, Int.reduceNeg, Int.reduceMul, fp_gu_c, fp_gu_s, fp_lose_o, fp_scut_o, fp_tk_o, fp_lrem_o])
  (repeat' first
      | (refine And.intro (by first | omega | (unfold fp_rg; omega)) ?_; (try intro _); (conv => whnf); (try simp only [Int.reduceToNat, Int.toNat_natCast, fp_up_c, fp_up_s, fp_up_i, fp_cp_c, fp_g_s, Nat.reduceBEq, Int.reduceAdd, Int.reduceSub, Int.reduceNeg, Int.reduceMul, fp_gu_c, fp_gu_s, fp_lose_o, fp_scut_o, fp_tk_o, fp_lrem_o]))
      | (refine And.intro (fun _ => ?_) (fun _ => ?_) <;> first | (exfalso; omega) | (rename_i hz_; exact absurd trivial hz_) | ((conv => whnf); (try simp only [Int.reduceToNat, Int.toNat_natCast, fp_up_c, fp_up_s, fp_up_i, fp_cp_c, fp_g_s, Nat.reduceBEq, Int.reduceAdd, Int.reduceSub, Int.reduceNeg, Int.reduceMul, fp_gu_c, fp_gu_s, fp_lose_o, fp_scut_o, fp_tk_o, fp_lrem_o])))
      | (refine And.intro (by simp [fp_rg, fp_up, fp_cp] <;> omega) ?_; (conv => whnf); (try simp only [Int.reduceToNat, Int.toNat_natCast, fp_up_c, fp_up_s, fp_up_i, fp_cp_c, fp_g_s, Nat.reduceBEq, Int.reduceAdd, Int.reduceSub, Int.reduceNeg, Int.reduceMul, fp_gu_c, fp_gu_s, fp_lose_o, fp_scut_o, fp_tk_o, fp_lrem_o]))
      | fail)
  refine hC _ _ _ _ ⟨_, rfl, ?_⟩
  refine sp_lengthTaken hp hf ho ?_
  conv => whnf
  (try simp only [Int.reduceToNat, Int.toNat_natCast, fp_up_c, fp_up_s, fp_up_i, fp_cp_c, fp_g_s, Nat.reduceBEq, Int.reduceAdd, Int.reduceSub, Int.reduceNeg, Int.reduceMul, fp_gu_c, fp_gu_s, fp_lose_o, fp_scut_o, fp_tk_o, fp_lrem_o])
  (repeat' first
      | (refine And.intro (by first | omega | (unfold fp_rg; omega)) ?_; (try intro _); (conv => whnf); (try simp only [Int.reduceToNat, Int.toNat_natCast, fp_up_c, fp_up_s, fp_up_i, fp_cp_c, fp_g_s, Nat.reduceBEq, Int.reduceAdd, Int.reduceSub, Int.reduceNeg, Int.reduceMul, fp_gu_c, fp_gu_s, fp_lose_o, fp_scut_o, fp_tk_o, fp_lrem_o]))
      | (refine And.intro (fun _ => ?_) (fun _ => ?_) <;> first | (exfalso; omega) | (rename_i hz_; exact absurd trivial hz_) | ((conv => whnf); (try simp only [Int.reduceToNat, Int.toNat_natCast, fp_up_c, fp_up_s, fp_up_i, fp_cp_c, fp_g_s, Nat.reduceBEq, Int.reduceAdd, Int.reduceSub, Int.reduceNeg, Int.reduceMul, fp_gu_c, fp_gu_s, fp_lose_o, fp_scut_o, fp_tk_o, fp_lrem_o])))
      | (refine And.intro (by simp [fp_rg, fp_up, fp_cp] <;> omega) ?_; (conv => whnf); (try simp only [Int.reduceToNat, Int.toNat_natCast, fp_up_c, fp_up_s, fp_up_i, fp_cp_c, fp_g_s, Nat.reduceBEq, Int.reduceAdd, Int.reduceSub, Int.reduceNeg, Int.reduceMul, fp_gu_c, fp_gu_s, fp_lose_o, fp_scut_o, fp_tk_o, fp_lrem_o]))
      | fail)
  refine hC _ _ _ _ ⟨_, rfl, ?_⟩
  refine sp_shorten hs ⟨hk.1, hw.1, hw.2⟩ ?_
  conv => whnf
  (try simp only [Int.reduceToNat, Int.toNat_natCast, fp_up_c, fp_up_s, fp_up_i, fp_cp_c, fp_g_s, Nat.reduceBEq, Int.reduceAdd, Int.reduceSub, Int.reduceNeg, Int.reduceMul, fp_gu_c, fp_gu_s, fp_lose_o, fp_scut_o, fp_tk_o, fp_lrem_o])
  (repeat' first
      | (refine And.intro (by first | omega | (unfold fp_rg; omega)) ?_; (try intro _); (conv => whnf); (try simp only [Int.reduceToNat, Int.toNat_natCast, fp_up_c, fp_up_s, fp_up_i, fp_cp_c, fp_g_s, Nat.reduceBEq, Int.reduceAdd, Int.reduceSub, Int.reduceNeg, Int.reduceMul, fp_gu_c, fp_gu_s, fp_lose_o, fp_scut_o, fp_tk_o, fp_lrem_o]))
      | (refine And.intro (fun _ => ?_) (fun _ => ?_) <;> first | (exfalso; omega) | (rename_i hz_; exact absurd trivial hz_) | ((conv => whnf); (try simp only [Int.reduceToNat, Int.toNat_natCast, fp_up_c, fp_up_s, fp_up_i, fp_cp_c, fp_g_s, Nat.reduceBEq, Int.reduceAdd, Int.reduceSub, Int.reduceNeg, Int.reduceMul, fp_gu_c, fp_gu_s, fp_lose_o, fp_scut_o, fp_tk_o, fp_lrem_o])))
      | (refine And.intro (by simp [fp_rg, fp_up, fp_cp] <;> omega) ?_; (conv => whnf); (try simp only [Int.reduceToNat, Int.toNat_natCast, fp_up_c, fp_up_s, fp_up_i, fp_cp_c, fp_g_s, Nat.reduceBEq, Int.reduceAdd, Int.reduceSub, Int.reduceNeg, Int.reduceMul, fp_gu_c, fp_gu_s, fp_lose_o, fp_scut_o, fp_tk_o, fp_lrem_o]))
      | fail)
  refine hC _ _ _ _ ⟨_, rfl, ?_⟩
  refine sp_leftLayersOf hf ?_
  conv => whnf
  (try simp only [Int.reduceToNat, Int.toNat_natCast, fp_up_c, fp_up_s, fp_up_i, fp_cp_c, fp_g_s, Nat.reduceBEq, Int.reduceAdd, Int.reduceSub, Int.reduceNeg, Int.reduceMul, fp_gu_c, fp_gu_s, fp_lose_o, fp_scut_o, fp_tk_o, fp_lrem_o])
  (repeat' first
      | (refine And.intro (by first | omega | (unfold fp_rg; omega)) ?_; (try intro _); (conv => whnf); (try simp only [Int.reduceToNat, Int.toNat_natCast, fp_up_c, fp_up_s, fp_up_i, fp_cp_c, fp_g_s, Nat.reduceBEq, Int.reduceAdd, Int.reduceSub, Int.reduceNeg, Int.reduceMul, fp_gu_c, fp_gu_s, fp_lose_o, fp_scut_o, fp_tk_o, fp_lrem_o]))
      | (refine And.intro (fun _ => ?_) (fun _ => ?_) <;> first | (exfalso; omega) | (rename_i hz_; exact absurd trivial hz_) | ((conv => whnf); (try simp only [Int.reduceToNat, Int.toNat_natCast, fp_up_c, fp_up_s, fp_up_i, fp_cp_c, fp_g_s, Nat.reduceBEq, Int.reduceAdd, Int.reduceSub, Int.reduceNeg, Int.reduceMul, fp_gu_c, fp_gu_s, fp_lose_o, fp_scut_o, fp_tk_o, fp_lrem_o])))
      | (refine And.intro (by simp [fp_rg, fp_up, fp_cp] <;> omega) ?_; (conv => whnf); (try simp only [Int.reduceToNat, Int.toNat_natCast, fp_up_c, fp_up_s, fp_up_i, fp_cp_c, fp_g_s, Nat.reduceBEq, Int.reduceAdd, Int.reduceSub, Int.reduceNeg, Int.reduceMul, fp_gu_c, fp_gu_s, fp_lose_o, fp_scut_o, fp_tk_o, fp_lrem_o]))
      | fail)
  refine hC _ _ _ _ ⟨_, rfl, ?_⟩
  refine sp_rightLayersOf hf ?_
  conv => whnf
  (try simp only [Int.reduceToNat, Int.toNat_natCast, fp_up_c, fp_up_s, fp_up_i, fp_cp_c, fp_g_s, Nat.reduceBEq, Int.reduceAdd, Int.reduceSub, Int.reduceNeg, Int.reduceMul, fp_gu_c, fp_gu_s, fp_lose_o, fp_scut_o, fp_tk_o, fp_lrem_o])
  (repeat' first
      | (refine And.intro (by first | omega | (unfold fp_rg; omega)) ?_; (try intro _); (conv => whnf); (try simp only [Int.reduceToNat, Int.toNat_natCast, fp_up_c, fp_up_s, fp_up_i, fp_cp_c, fp_g_s, Nat.reduceBEq, Int.reduceAdd, Int.reduceSub, Int.reduceNeg, Int.reduceMul, fp_gu_c, fp_gu_s, fp_lose_o, fp_scut_o, fp_tk_o, fp_lrem_o]))
      | (refine And.intro (fun _ => ?_) (fun _ => ?_) <;> first | (exfalso; omega) | (rename_i hz_; exact absurd trivial hz_) | ((conv => whnf); (try simp only [Int.reduceToNat, Int.toNat_natCast, fp_up_c, fp_up_s, fp_up_i, fp_cp_c, fp_g_s, Nat.reduceBEq, Int.reduceAdd, Int.reduceSub, Int.reduceNeg, Int.reduceMul, fp_gu_c, fp_gu_s, fp_lose_o, fp_scut_o, fp_tk_o, fp_lrem_o])))
      | (refine And.intro (by simp [fp_rg, fp_up, fp_cp] <;> omega) ?_; (conv => whnf); (try simp only [Int.reduceToNat, Int.toNat_natCast, fp_up_c, fp_up_s, fp_up_i, fp_cp_c, fp_g_s, Nat.reduceBEq, Int.reduceAdd, Int.reduceSub, Int.reduceNeg, Int.reduceMul, fp_gu_c, fp_gu_s, fp_lose_o, fp_scut_o, fp_tk_o, fp_lrem_o]))
      | fail)
  refine hC _ _ _ _ ⟨_, rfl, ?_⟩
  refine sp_layersOf hf ?_
  conv => whnf
  (try simp only [Int.reduceToNat, Int.toNat_natCast, fp_up_c, fp_up_s, fp_up_i, fp_cp_c, fp_g_s, Nat.reduceBEq, Int.reduceAdd, Int.reduceSub, Int.reduceNeg, Int.reduceMul, fp_gu_c, fp_gu_s, fp_lose_o, fp_scut_o, fp_tk_o, fp_lrem_o])
  (repeat' first
      | (refine And.intro (by first | omega | (unfold fp_rg; omega)) ?_; (try intro _); (conv => whnf); (try simp only [Int.reduceToNat, Int.toNat_natCast, fp_up_c, fp_up_s, fp_up_i, fp_cp_c, fp_g_s, Nat.reduceBEq, Int.reduceAdd, Int.reduceSub, Int.reduceNeg, Int.reduceMul, fp_gu_c, fp_gu_s, fp_lose_o, fp_scut_o, fp_tk_o, fp_lrem_o]))
      | (refine And.intro (fun _ => ?_) (fun _ => ?_) <;> first | (exfalso; omega) | (rename_i hz_; exact absurd trivial hz_) | ((conv => whnf); (try simp only [Int.reduceToNat, Int.toNat_natCast, fp_up_c, fp_up_s, fp_up_i, fp_cp_c, fp_g_s, Nat.reduceBEq, Int.reduceAdd, Int.reduceSub, Int.reduceNeg, Int.reduceMul, fp_gu_c, fp_gu_s, fp_lose_o, fp_scut_o, fp_tk_o, fp_lrem_o])))
      | (refine And.intro (by simp [fp_rg, fp_up, fp_cp] <;> omega) ?_; (conv => whnf); (try simp only [Int.reduceToNat, Int.toNat_natCast, fp_up_c, fp_up_s, fp_up_i, fp_cp_c, fp_g_s, Nat.reduceBEq, Int.reduceAdd, Int.reduceSub, Int.reduceNeg, Int.reduceMul, fp_gu_c, fp_gu_s, fp_lose_o, fp_scut_o, fp_tk_o, fp_lrem_o]))
      | fail)
  simp only [fp_up_g, fp_g_s, fp_g_g, fp_gu_c, fp_scut_o, Nat.reduceBEq]
  refine hC _ _ _ _ ⟨_, rfl, ?_⟩
  refine sp_timePass (by omega) (by simp only [fp_g_s, fp_gu_c, fp_scut_o, Nat.reduceBEq]; exact hl) (fun t ht => by simp only [fp_g_s, fp_gu_c, fp_scut_o, Nat.reduceBEq] at ht ⊢; exact hpt t ht) (by simp [fp_g_s, fp_gu, fp_scut_o]; omega) ?_
  simp only [fp_up_g, fp_g_s, fp_g_g, fp_gu_c, fp_scut_o, Nat.reduceBEq]
  conv => whnf
  (try simp only [Int.reduceToNat, Int.toNat_natCast, fp_up_c, fp_up_s, fp_up_i, fp_cp_c, fp_g_s, Nat.reduceBEq, Int.reduceAdd, Int.reduceSub, Int.reduceNeg, Int.reduceMul, fp_gu_c, fp_gu_s, fp_lose_o, fp_scut_o, fp_tk_o, fp_lrem_o])
  (repeat' first
      | (refine And.intro (by first | omega | (unfold fp_rg; omega)) ?_; (try intro _); (conv => whnf); (try simp only [Int.reduceToNat, Int.toNat_natCast, fp_up_c, fp_up_s, fp_up_i, fp_cp_c, fp_g_s, Nat.reduceBEq, Int.reduceAdd, Int.reduceSub, Int.reduceNeg, Int.reduceMul, fp_gu_c, fp_gu_s, fp_lose_o, fp_scut_o, fp_tk_o, fp_lrem_o]))
      | (refine And.intro (fun _ => ?_) (fun _ => ?_) <;> first | (exfalso; omega) | (rename_i hz_; exact absurd trivial hz_) | ((conv => whnf); (try simp only [Int.reduceToNat, Int.toNat_natCast, fp_up_c, fp_up_s, fp_up_i, fp_cp_c, fp_g_s, Nat.reduceBEq, Int.reduceAdd, Int.reduceSub, Int.reduceNeg, Int.reduceMul, fp_gu_c, fp_gu_s, fp_lose_o, fp_scut_o, fp_tk_o, fp_lrem_o])))
      | (refine And.intro (by simp [fp_rg, fp_up, fp_cp] <;> omega) ?_; (conv => whnf); (try simp only [Int.reduceToNat, Int.toNat_natCast, fp_up_c, fp_up_s, fp_up_i, fp_cp_c, fp_g_s, Nat.reduceBEq, Int.reduceAdd, Int.reduceSub, Int.reduceNeg, Int.reduceMul, fp_gu_c, fp_gu_s, fp_lose_o, fp_scut_o, fp_tk_o, fp_lrem_o]))
      | fail)
  exact hq
set_option maxHeartbeats 600000 in
set_option maxRecDepth 100000 in
theorem sp_areAlikeI {L d g : Nat} {p q : Int} {H : FpH} {Q : FpQ} (h : 0 ≤ p ∧ p < 10) (hs : 0 ≤ q ∧ q < 10) (h1 : fp_alk (H g) p.toNat q.toNat → Q (some (.inl 1)) H) (h0 : ¬ fp_alk (H g) p.toNat q.toNat → Q (some (.inl 0)) H) : fp_Wp L (d + 2) 18 0 (fp_en 18 [.inr (g, 1), .inl p, .inl q]) [] H Q := by
  obtain ⟨q', rfl⟩ := Int.eq_ofNat_of_zero_le hs.1
  exact sp_areAlike h (by omega) h1 h0
/-- the least place where f holds -/
def fp_ff (f : Nat → Bool) : Nat → Option Nat
  | 0 => none
  | n + 1 => match fp_ff f n with
    | some k => some k
    | none => if f n = true then some n else none
theorem fp_ff_n {f : Nat → Bool} : ∀ n, (∀ q, q < n → f q = false) → fp_ff f n = none
  | 0, _ => rfl
  | n + 1, h => by
    simp only [fp_ff]
    rw [fp_ff_n n (fun q hq => h q (by omega)), if_neg (by simp [h n (by omega)])]
theorem fp_ff_s {f : Nat → Bool} {r : Nat} : ∀ n, r < n → f r = true → (∀ q, q < r → f q = false) → fp_ff f n = some r
  | 0, h, _, _ => by omega
  | n + 1, h, h1, h2 => by
    simp only [fp_ff]
    by_cases hr : r = n
    · subst hr
      rw [fp_ff_n r h2, if_pos h1]
    · rw [fp_ff_s n (by omega) h1 h2]
theorem fp_ff_out {f : Nat → Bool} : ∀ n, (∃ r, fp_ff f n = some r ∧ r < n ∧ f r = true ∧ ∀ q, q < r → f q = false) ∨ (fp_ff f n = none ∧ ∀ q, q < n → f q = false)
  | 0 => Or.inr ⟨rfl, fun q hq => by omega⟩
  | n + 1 => by
    rcases fp_ff_out (f := f) n with ⟨r, h1, h2, h3, h4⟩ | ⟨h1, h2⟩
    · exact Or.inl ⟨r, by simp only [fp_ff, h1], by omega, h3, h4⟩
    · by_cases hn : f n = true
      · exact Or.inl ⟨n, by simp only [fp_ff, h1, if_pos hn], by omega, hn, h2⟩
      · refine Or.inr ⟨by simp only [fp_ff, h1, if_neg hn], fun q hq => ?_⟩
        by_cases hq2 : q = n
        · subst hq2; simpa using hn
        · exact h2 q (by omega)
noncomputable def fp_dc (P : Prop) : Bool := @decide P (Classical.propDecidable P)
theorem fp_dc_t {P : Prop} (h : P) : fp_dc P = true := @decide_eq_true P (Classical.propDecidable P) h
theorem fp_dc_f {P : Prop} (h : ¬ P) : fp_dc P = false := @decide_eq_false P (Classical.propDecidable P) h
theorem fp_dc_i {P : Prop} (h : fp_dc P = true) : P := @of_decide_eq_true P (Classical.propDecidable P) h
theorem fp_dc_n {P : Prop} (h : fp_dc P = false) : ¬ P := @of_decide_eq_false P (Classical.propDecidable P) h
noncomputable def fp_okB (G : FpG) (t k : Nat) : Bool := fp_dc (fp_alk G k (G 10 t).toNat ∧ fp_has G k (G 11 t))
theorem fp_okB_t {G : FpG} {t k : Nat} (h1 : fp_alk G k (G 10 t).toNat) (h2 : fp_has G k (G 11 t)) : fp_okB G t k = true := fp_dc_t ⟨h1, h2⟩
theorem fp_okB_f {G : FpG} {t k : Nat} (h : ¬ (fp_alk G k (G 10 t).toNat ∧ fp_has G k (G 11 t))) : fp_okB G t k = false := fp_dc_f h
noncomputable def fp_fr (G : FpG) (t : Nat) : Int := match fp_ff (fp_okB G t) (G 1 4).toNat with
  | some k => (k : Int)
  | none => -5
set_option maxHeartbeats 600000 in
set_option maxRecDepth 100000 in
theorem lp_findFor {L d g t : Nat} {H : FpH} {Q : FpQ} (hn : 0 ≤ H g 1 4 ∧ H g 1 4 ≤ 10) (hw : 0 ≤ H g 10 t ∧ H g 10 t < 10) (hq : Q (some (.inl (fp_fr (H g) t))) H) : ∀ (m : Nat) (i : Int), 0 ≤ i → i + m = H g 1 4 → (∀ q : Nat, (q : Int) < i → fp_okB (H g) t q = false) → fp_Wp L (d + 3) 41 23 [some (.inr (g, 0)), some (.inl (t : Int)), some (.inl (H g 10 t)), some (.inl (H g 11 t)), some (.inl i)] [] H Q := by
  intro m
  induction m with
  | zero =>
    intro i h0 hi hf
    have e : fp_fr (H g) t = -5 := by unfold fp_fr; rw [fp_ff_n _ (fun q hq => hf q (by omega))]
    rw [e] at hq
    refine fp_go 1000 [23] (fun KN KC hN hC => ?_)
    conv => whnf
    (try simp only [Int.reduceToNat, Int.toNat_natCast, fp_up_c, fp_up_s, fp_up_i, fp_cp_c, fp_g_s, Nat.reduceBEq, Int.reduceAdd, Int.reduceSub, Int.reduceNeg, Int.reduceMul, fp_gu_c, fp_gu_s, fp_lose_o, fp_scut_o, fp_tk_o, fp_lrem_o])
    (repeat' first
        | (refine And.intro (by first | omega | (unfold fp_rg; omega)) ?_; (try intro _); (conv => whnf); (try simp only [Int.reduceToNat, Int.toNat_natCast, fp_up_c, fp_up_s, fp_up_i, fp_cp_c, fp_g_s, Nat.reduceBEq, Int.reduceAdd, Int.reduceSub, Int.reduceNeg, Int.reduceMul, fp_gu_c, fp_gu_s, fp_lose_o, fp_scut_o, fp_tk_o, fp_lrem_o]))
        | (refine And.intro (fun _ => ?_) (fun _ => ?_) <;> first | (exfalso; omega) | (rename_i hz_; exact absurd trivial hz_) | ((conv => whnf); (try simp only [Int.reduceToNat, Int.toNat_natCast, fp_up_c, fp_up_s, fp_up_i, fp_cp_c, fp_g_s, Nat.reduceBEq, Int.reduceAdd, Int.reduceSub, Int.reduceNeg, Int.reduceMul, fp_gu_c, fp_gu_s, fp_lose_o, fp_scut_o, fp_tk_o, fp_lrem_o])))
        | (refine And.intro (by simp [fp_rg, fp_up, fp_cp] <;> omega) ?_; (conv => whnf); (try simp only [Int.reduceToNat, Int.toNat_natCast, fp_up_c, fp_up_s, fp_up_i, fp_cp_c, fp_g_s, Nat.reduceBEq, Int.reduceAdd, Int.reduceSub, Int.reduceNeg, Int.reduceMul, fp_gu_c, fp_gu_s, fp_lose_o, fp_scut_o, fp_tk_o, fp_lrem_o]))
        | fail)
    exact hq
  | succ m ih =>
    intro i h0 hi hf
    have step : fp_okB (H g) t i.toNat = false → fp_Wp L (d + 3) 41 23 [some (.inr (g, 0)), some (.inl (t : Int)), some (.inl (H g 10 t)), some (.inl (H g 11 t)), some (.inl (i + 1))] [] H Q := fun hh => ih (i + 1) (by omega) (by omega) (fun q hq => by
      by_cases hji : (q : Int) < i
      · exact hf q hji
      · obtain rfl : q = i.toNat := by omega
        exact hh)
    obtain ⟨k, rfl⟩ := Int.eq_ofNat_of_zero_le h0
    simp only [Int.toNat_natCast] at step
    refine fp_go 1000 [23] (fun KN KC hN hC => ?_)
    conv => whnf
    (try simp only [Int.reduceToNat, Int.toNat_natCast, fp_up_c, fp_up_s, fp_up_i, fp_cp_c, fp_g_s, Nat.reduceBEq, Int.reduceAdd, Int.reduceSub, Int.reduceNeg, Int.reduceMul, fp_gu_c, fp_gu_s, fp_lose_o, fp_scut_o, fp_tk_o, fp_lrem_o])
    (repeat' first
        | (refine And.intro (by first | omega | (unfold fp_rg; omega)) ?_; (try intro _); (conv => whnf); (try simp only [Int.reduceToNat, Int.toNat_natCast, fp_up_c, fp_up_s, fp_up_i, fp_cp_c, fp_g_s, Nat.reduceBEq, Int.reduceAdd, Int.reduceSub, Int.reduceNeg, Int.reduceMul, fp_gu_c, fp_gu_s, fp_lose_o, fp_scut_o, fp_tk_o, fp_lrem_o]))
        | (refine And.intro (fun _ => ?_) (fun _ => ?_) <;> first | (exfalso; omega) | (rename_i hz_; exact absurd trivial hz_) | ((conv => whnf); (try simp only [Int.reduceToNat, Int.toNat_natCast, fp_up_c, fp_up_s, fp_up_i, fp_cp_c, fp_g_s, Nat.reduceBEq, Int.reduceAdd, Int.reduceSub, Int.reduceNeg, Int.reduceMul, fp_gu_c, fp_gu_s, fp_lose_o, fp_scut_o, fp_tk_o, fp_lrem_o])))
        | (refine And.intro (by simp [fp_rg, fp_up, fp_cp] <;> omega) ?_; (conv => whnf); (try simp only [Int.reduceToNat, Int.toNat_natCast, fp_up_c, fp_up_s, fp_up_i, fp_cp_c, fp_g_s, Nat.reduceBEq, Int.reduceAdd, Int.reduceSub, Int.reduceNeg, Int.reduceMul, fp_gu_c, fp_gu_s, fp_lose_o, fp_scut_o, fp_tk_o, fp_lrem_o]))
        | fail)
    refine hC _ _ _ _ ⟨_, rfl, ?_⟩
    refine sp_areAlikeI (by omega) hw (fun hh => ?_) (fun hh => ?_)
    · conv => whnf
      (try simp only [Int.reduceToNat, Int.toNat_natCast, fp_up_c, fp_up_s, fp_up_i, fp_cp_c, fp_g_s, Nat.reduceBEq, Int.reduceAdd, Int.reduceSub, Int.reduceNeg, Int.reduceMul, fp_gu_c, fp_gu_s, fp_lose_o, fp_scut_o, fp_tk_o, fp_lrem_o])
      (repeat' first
          | (refine And.intro (by first | omega | (unfold fp_rg; omega)) ?_; (try intro _); (conv => whnf); (try simp only [Int.reduceToNat, Int.toNat_natCast, fp_up_c, fp_up_s, fp_up_i, fp_cp_c, fp_g_s, Nat.reduceBEq, Int.reduceAdd, Int.reduceSub, Int.reduceNeg, Int.reduceMul, fp_gu_c, fp_gu_s, fp_lose_o, fp_scut_o, fp_tk_o, fp_lrem_o]))
          | (refine And.intro (fun _ => ?_) (fun _ => ?_) <;> first | (exfalso; omega) | (rename_i hz_; exact absurd trivial hz_) | ((conv => whnf); (try simp only [Int.reduceToNat, Int.toNat_natCast, fp_up_c, fp_up_s, fp_up_i, fp_cp_c, fp_g_s, Nat.reduceBEq, Int.reduceAdd, Int.reduceSub, Int.reduceNeg, Int.reduceMul, fp_gu_c, fp_gu_s, fp_lose_o, fp_scut_o, fp_tk_o, fp_lrem_o])))
          | (refine And.intro (by simp [fp_rg, fp_up, fp_cp] <;> omega) ?_; (conv => whnf); (try simp only [Int.reduceToNat, Int.toNat_natCast, fp_up_c, fp_up_s, fp_up_i, fp_cp_c, fp_g_s, Nat.reduceBEq, Int.reduceAdd, Int.reduceSub, Int.reduceNeg, Int.reduceMul, fp_gu_c, fp_gu_s, fp_lose_o, fp_scut_o, fp_tk_o, fp_lrem_o]))
          | fail)
      refine hC _ _ _ _ ⟨_, rfl, ?_⟩
      refine sp_hasInStock (by omega) (fun h2 => ?_) (fun h2 => ?_)
      · conv => whnf
        (try simp only [Int.reduceToNat, Int.toNat_natCast, fp_up_c, fp_up_s, fp_up_i, fp_cp_c, fp_g_s, Nat.reduceBEq, Int.reduceAdd, Int.reduceSub, Int.reduceNeg, Int.reduceMul, fp_gu_c, fp_gu_s, fp_lose_o, fp_scut_o, fp_tk_o, fp_lrem_o])
        (repeat' first
            | (refine And.intro (by first | omega | (unfold fp_rg; omega)) ?_; (try intro _); (conv => whnf); (try simp only [Int.reduceToNat, Int.toNat_natCast, fp_up_c, fp_up_s, fp_up_i, fp_cp_c, fp_g_s, Nat.reduceBEq, Int.reduceAdd, Int.reduceSub, Int.reduceNeg, Int.reduceMul, fp_gu_c, fp_gu_s, fp_lose_o, fp_scut_o, fp_tk_o, fp_lrem_o]))
            | (refine And.intro (fun _ => ?_) (fun _ => ?_) <;> first | (exfalso; omega) | (rename_i hz_; exact absurd trivial hz_) | ((conv => whnf); (try simp only [Int.reduceToNat, Int.toNat_natCast, fp_up_c, fp_up_s, fp_up_i, fp_cp_c, fp_g_s, Nat.reduceBEq, Int.reduceAdd, Int.reduceSub, Int.reduceNeg, Int.reduceMul, fp_gu_c, fp_gu_s, fp_lose_o, fp_scut_o, fp_tk_o, fp_lrem_o])))
            | (refine And.intro (by simp [fp_rg, fp_up, fp_cp] <;> omega) ?_; (conv => whnf); (try simp only [Int.reduceToNat, Int.toNat_natCast, fp_up_c, fp_up_s, fp_up_i, fp_cp_c, fp_g_s, Nat.reduceBEq, Int.reduceAdd, Int.reduceSub, Int.reduceNeg, Int.reduceMul, fp_gu_c, fp_gu_s, fp_lose_o, fp_scut_o, fp_tk_o, fp_lrem_o]))
            | fail)
        have e : fp_fr (H g) t = (k : Int) := by unfold fp_fr; rw [fp_ff_s _ (show k < (H g 1 4).toNat by omega) (fp_okB_t hh h2) (fun q hq => hf q (by omega))]
        rw [e] at hq
        exact hq
      · conv => whnf
        (try simp only [Int.reduceToNat, Int.toNat_natCast, fp_up_c, fp_up_s, fp_up_i, fp_cp_c, fp_g_s, Nat.reduceBEq, Int.reduceAdd, Int.reduceSub, Int.reduceNeg, Int.reduceMul, fp_gu_c, fp_gu_s, fp_lose_o, fp_scut_o, fp_tk_o, fp_lrem_o])
        (repeat' first
            | (refine And.intro (by first | omega | (unfold fp_rg; omega)) ?_; (try intro _); (conv => whnf); (try simp only [Int.reduceToNat, Int.toNat_natCast, fp_up_c, fp_up_s, fp_up_i, fp_cp_c, fp_g_s, Nat.reduceBEq, Int.reduceAdd, Int.reduceSub, Int.reduceNeg, Int.reduceMul, fp_gu_c, fp_gu_s, fp_lose_o, fp_scut_o, fp_tk_o, fp_lrem_o]))
            | (refine And.intro (fun _ => ?_) (fun _ => ?_) <;> first | (exfalso; omega) | (rename_i hz_; exact absurd trivial hz_) | ((conv => whnf); (try simp only [Int.reduceToNat, Int.toNat_natCast, fp_up_c, fp_up_s, fp_up_i, fp_cp_c, fp_g_s, Nat.reduceBEq, Int.reduceAdd, Int.reduceSub, Int.reduceNeg, Int.reduceMul, fp_gu_c, fp_gu_s, fp_lose_o, fp_scut_o, fp_tk_o, fp_lrem_o])))
            | (refine And.intro (by simp [fp_rg, fp_up, fp_cp] <;> omega) ?_; (conv => whnf); (try simp only [Int.reduceToNat, Int.toNat_natCast, fp_up_c, fp_up_s, fp_up_i, fp_cp_c, fp_g_s, Nat.reduceBEq, Int.reduceAdd, Int.reduceSub, Int.reduceNeg, Int.reduceMul, fp_gu_c, fp_gu_s, fp_lose_o, fp_scut_o, fp_tk_o, fp_lrem_o]))
            | fail)
        exact hN _ _ _ _ (step (fp_okB_f (fun q => h2 q.2)))
    · conv => whnf
      (try simp only [Int.reduceToNat, Int.toNat_natCast, fp_up_c, fp_up_s, fp_up_i, fp_cp_c, fp_g_s, Nat.reduceBEq, Int.reduceAdd, Int.reduceSub, Int.reduceNeg, Int.reduceMul, fp_gu_c, fp_gu_s, fp_lose_o, fp_scut_o, fp_tk_o, fp_lrem_o])
      (repeat' first
          | (refine And.intro (by first | omega | (unfold fp_rg; omega)) ?_; (try intro _); (conv => whnf); (try simp only [Int.reduceToNat, Int.toNat_natCast, fp_up_c, fp_up_s, fp_up_i, fp_cp_c, fp_g_s, Nat.reduceBEq, Int.reduceAdd, Int.reduceSub, Int.reduceNeg, Int.reduceMul, fp_gu_c, fp_gu_s, fp_lose_o, fp_scut_o, fp_tk_o, fp_lrem_o]))
          | (refine And.intro (fun _ => ?_) (fun _ => ?_) <;> first | (exfalso; omega) | (rename_i hz_; exact absurd trivial hz_) | ((conv => whnf); (try simp only [Int.reduceToNat, Int.toNat_natCast, fp_up_c, fp_up_s, fp_up_i, fp_cp_c, fp_g_s, Nat.reduceBEq, Int.reduceAdd, Int.reduceSub, Int.reduceNeg, Int.reduceMul, fp_gu_c, fp_gu_s, fp_lose_o, fp_scut_o, fp_tk_o, fp_lrem_o])))
          | (refine And.intro (by simp [fp_rg, fp_up, fp_cp] <;> omega) ?_; (conv => whnf); (try simp only [Int.reduceToNat, Int.toNat_natCast, fp_up_c, fp_up_s, fp_up_i, fp_cp_c, fp_g_s, Nat.reduceBEq, Int.reduceAdd, Int.reduceSub, Int.reduceNeg, Int.reduceMul, fp_gu_c, fp_gu_s, fp_lose_o, fp_scut_o, fp_tk_o, fp_lrem_o]))
          | fail)
      exact hN _ _ _ _ (step (fp_okB_f (fun q => hh q.1)))
set_option maxHeartbeats 600000 in
set_option maxRecDepth 100000 in
theorem sp_findFor {L d g t : Nat} {H : FpH} {Q : FpQ} (ht : t < 12) (hn : 0 ≤ H g 1 4 ∧ H g 1 4 ≤ 10) (hw : 0 ≤ H g 10 t ∧ H g 10 t < 10) (hq : Q (some (.inl (fp_fr (H g) t))) H) : fp_Wp L (d + 3) 41 0 (fp_en 41 [.inr (g, 0), .inl (t : Int)]) [] H Q := by
  refine fp_go 1000 [23] (fun KN KC hN hC => ?_)
  conv => whnf
  (try simp only [Int.reduceToNat, Int.toNat_natCast, fp_up_c, fp_up_s, fp_up_i, fp_cp_c, fp_g_s, Nat.reduceBEq, Int.reduceAdd, Int.reduceSub, Int.reduceNeg, Int.reduceMul, fp_gu_c, fp_gu_s, fp_lose_o, fp_scut_o, fp_tk_o, fp_lrem_o])
  (repeat' first
      | (refine And.intro (by first | omega | (unfold fp_rg; omega)) ?_; (try intro _); (conv => whnf); (try simp only [Int.reduceToNat, Int.toNat_natCast, fp_up_c, fp_up_s, fp_up_i, fp_cp_c, fp_g_s, Nat.reduceBEq, Int.reduceAdd, Int.reduceSub, Int.reduceNeg, Int.reduceMul, fp_gu_c, fp_gu_s, fp_lose_o, fp_scut_o, fp_tk_o, fp_lrem_o]))
      | (refine And.intro (fun _ => ?_) (fun _ => ?_) <;> first | (exfalso; omega) | (rename_i hz_; exact absurd trivial hz_) | ((conv => whnf); (try simp only [Int.reduceToNat, Int.toNat_natCast, fp_up_c, fp_up_s, fp_up_i, fp_cp_c, fp_g_s, Nat.reduceBEq, Int.reduceAdd, Int.reduceSub, Int.reduceNeg, Int.reduceMul, fp_gu_c, fp_gu_s, fp_lose_o, fp_scut_o, fp_tk_o, fp_lrem_o])))
      | (refine And.intro (by simp [fp_rg, fp_up, fp_cp] <;> omega) ?_; (conv => whnf); (try simp only [Int.reduceToNat, Int.toNat_natCast, fp_up_c, fp_up_s, fp_up_i, fp_cp_c, fp_g_s, Nat.reduceBEq, Int.reduceAdd, Int.reduceSub, Int.reduceNeg, Int.reduceMul, fp_gu_c, fp_gu_s, fp_lose_o, fp_scut_o, fp_tk_o, fp_lrem_o]))
      | fail)
  exact hN _ _ _ _ (lp_findFor hn hw hq (H g 1 4).toNat 0 (by omega) (by omega) (fun q hq => by omega))
def fp_ho (G : FpG) (t k : Nat) : FpG := fp_lrem (fp_gu (fp_gu (fp_tk G k (G 11 t)) 0 4 (G 0 4 + (if G 11 t = 2 then 5 else 2))) 0 6 (G 0 6 + 1)) t
set_option maxHeartbeats 600000 in
set_option maxRecDepth 100000 in
theorem sp_handOver {L d g t k : Nat} {H : FpH} {Q : FpQ} (ht : (t : Int) < H g 9 3 ∧ H g 9 3 ≤ 12) (hk : k < 10) (hs : 0 ≤ H g 3 k ∧ H g 3 k ≤ 2000000 ∧ 0 ≤ H g 4 k ∧ H g 4 k ≤ 2000000) (hc : 0 ≤ H g 0 4 ∧ H g 0 4 ≤ 3000000 ∧ 0 ≤ H g 0 6 ∧ H g 0 6 ≤ 3000000) (hq : Q none (fp_g H g (fp_ho (H g) t k))) : fp_Wp L (d + 1) 42 0 (fp_en 42 [.inr (g, 0), .inl (t : Int), .inl (k : Int)]) [] H Q := by
  unfold fp_ho at hq
  refine fp_go 1000 [] (fun KN KC hN hC => ?_)
  conv => whnf
  (try simp only [Int.reduceToNat, Int.toNat_natCast, fp_up_c, fp_up_s, fp_up_i, fp_cp_c, fp_g_s, Nat.reduceBEq, Int.reduceAdd, Int.reduceSub, Int.reduceNeg, Int.reduceMul, fp_gu_c, fp_gu_s, fp_lose_o, fp_scut_o, fp_tk_o, fp_lrem_o])
  (repeat' first
      | (refine And.intro (by first | omega | (unfold fp_rg; omega)) ?_; (try intro _); (conv => whnf); (try simp only [Int.reduceToNat, Int.toNat_natCast, fp_up_c, fp_up_s, fp_up_i, fp_cp_c, fp_g_s, Nat.reduceBEq, Int.reduceAdd, Int.reduceSub, Int.reduceNeg, Int.reduceMul, fp_gu_c, fp_gu_s, fp_lose_o, fp_scut_o, fp_tk_o, fp_lrem_o]))
      | (refine And.intro (fun _ => ?_) (fun _ => ?_) <;> first | (exfalso; omega) | (rename_i hz_; exact absurd trivial hz_) | ((conv => whnf); (try simp only [Int.reduceToNat, Int.toNat_natCast, fp_up_c, fp_up_s, fp_up_i, fp_cp_c, fp_g_s, Nat.reduceBEq, Int.reduceAdd, Int.reduceSub, Int.reduceNeg, Int.reduceMul, fp_gu_c, fp_gu_s, fp_lose_o, fp_scut_o, fp_tk_o, fp_lrem_o])))
      | (refine And.intro (by simp [fp_rg, fp_up, fp_cp] <;> omega) ?_; (conv => whnf); (try simp only [Int.reduceToNat, Int.toNat_natCast, fp_up_c, fp_up_s, fp_up_i, fp_cp_c, fp_g_s, Nat.reduceBEq, Int.reduceAdd, Int.reduceSub, Int.reduceNeg, Int.reduceMul, fp_gu_c, fp_gu_s, fp_lose_o, fp_scut_o, fp_tk_o, fp_lrem_o]))
      | fail)
  refine hC _ _ _ _ ⟨_, rfl, ?_⟩
  refine sp_take hk hs ?_
  conv => whnf
  (try simp only [Int.reduceToNat, Int.toNat_natCast, fp_up_c, fp_up_s, fp_up_i, fp_cp_c, fp_g_s, Nat.reduceBEq, Int.reduceAdd, Int.reduceSub, Int.reduceNeg, Int.reduceMul, fp_gu_c, fp_gu_s, fp_lose_o, fp_scut_o, fp_tk_o, fp_lrem_o])
  (repeat' first
      | (refine And.intro (by first | omega | (unfold fp_rg; omega)) ?_; (try intro _); (conv => whnf); (try simp only [Int.reduceToNat, Int.toNat_natCast, fp_up_c, fp_up_s, fp_up_i, fp_cp_c, fp_g_s, Nat.reduceBEq, Int.reduceAdd, Int.reduceSub, Int.reduceNeg, Int.reduceMul, fp_gu_c, fp_gu_s, fp_lose_o, fp_scut_o, fp_tk_o, fp_lrem_o]))
      | (refine And.intro (fun _ => ?_) (fun _ => ?_) <;> first | (exfalso; omega) | (rename_i hz_; exact absurd trivial hz_) | ((conv => whnf); (try simp only [Int.reduceToNat, Int.toNat_natCast, fp_up_c, fp_up_s, fp_up_i, fp_cp_c, fp_g_s, Nat.reduceBEq, Int.reduceAdd, Int.reduceSub, Int.reduceNeg, Int.reduceMul, fp_gu_c, fp_gu_s, fp_lose_o, fp_scut_o, fp_tk_o, fp_lrem_o])))
      | (refine And.intro (by simp [fp_rg, fp_up, fp_cp] <;> omega) ?_; (conv => whnf); (try simp only [Int.reduceToNat, Int.toNat_natCast, fp_up_c, fp_up_s, fp_up_i, fp_cp_c, fp_g_s, Nat.reduceBEq, Int.reduceAdd, Int.reduceSub, Int.reduceNeg, Int.reduceMul, fp_gu_c, fp_gu_s, fp_lose_o, fp_scut_o, fp_tk_o, fp_lrem_o]))
      | fail)
  all_goals
    rename_i hb
    first | rw [if_pos hb] at hq | rw [if_neg hb] at hq
    simp only [fp_up_g, fp_g_s, fp_g_g, fp_gu_i, Nat.reduceBEq]
    refine hC _ _ _ _ ⟨_, rfl, ?_⟩
    refine sp_remove (by simp only [fp_g_s, fp_gu_c, fp_tk_o, Nat.reduceBEq]; exact ht) ?_
    simp only [fp_up_g, fp_g_s, fp_g_g, fp_gu_c, fp_gu_i, fp_tk_o, Nat.reduceBEq]
    conv => whnf
    (try simp only [Int.reduceToNat, Int.toNat_natCast, fp_up_c, fp_up_s, fp_up_i, fp_cp_c, fp_g_s, Nat.reduceBEq, Int.reduceAdd, Int.reduceSub, Int.reduceNeg, Int.reduceMul, fp_gu_c, fp_gu_s, fp_lose_o, fp_scut_o, fp_tk_o, fp_lrem_o])
    (repeat' first
        | (refine And.intro (by first | omega | (unfold fp_rg; omega)) ?_; (try intro _); (conv => whnf); (try simp only [Int.reduceToNat, Int.toNat_natCast, fp_up_c, fp_up_s, fp_up_i, fp_cp_c, fp_g_s, Nat.reduceBEq, Int.reduceAdd, Int.reduceSub, Int.reduceNeg, Int.reduceMul, fp_gu_c, fp_gu_s, fp_lose_o, fp_scut_o, fp_tk_o, fp_lrem_o]))
        | (refine And.intro (fun _ => ?_) (fun _ => ?_) <;> first | (exfalso; omega) | (rename_i hz_; exact absurd trivial hz_) | ((conv => whnf); (try simp only [Int.reduceToNat, Int.toNat_natCast, fp_up_c, fp_up_s, fp_up_i, fp_cp_c, fp_g_s, Nat.reduceBEq, Int.reduceAdd, Int.reduceSub, Int.reduceNeg, Int.reduceMul, fp_gu_c, fp_gu_s, fp_lose_o, fp_scut_o, fp_tk_o, fp_lrem_o])))
        | (refine And.intro (by simp [fp_rg, fp_up, fp_cp] <;> omega) ?_; (conv => whnf); (try simp only [Int.reduceToNat, Int.toNat_natCast, fp_up_c, fp_up_s, fp_up_i, fp_cp_c, fp_g_s, Nat.reduceBEq, Int.reduceAdd, Int.reduceSub, Int.reduceNeg, Int.reduceMul, fp_gu_c, fp_gu_s, fp_lose_o, fp_scut_o, fp_tk_o, fp_lrem_o]))
        | fail)
    exact hq
end
section
/-! serving all, sums, the history -/
theorem fp_ho_1 {G : FpG} {t k : Nat} : fp_ho G t k 1 4 = G 1 4 := by
  unfold fp_ho
  rw [fp_lrem_o (by rfl) (by rfl) (by rfl) (by rfl), fp_gu_c (by rfl), fp_gu_c (by rfl), fp_tk_o (by rfl) (by rfl)]
theorem fp_ho_o {G : FpG} {t k c i : Nat} (h0 : (c == 0) = false) (h3 : (c == 3) = false) (h4 : (c == 4) = false) (h9 : (c == 9) = false) (h10 : (c == 10) = false) (h11 : (c == 11) = false) (h12 : (c == 12) = false) : fp_ho G t k c i = G c i := by
  unfold fp_ho
  rw [fp_lrem_o h9 h10 h11 h12, fp_gu_c h0, fp_gu_c h0, fp_tk_o h3 h4]
theorem fp_ho_93 {G : FpG} {t k : Nat} : fp_ho G t k 9 3 = G 9 3 - 1 := by
  simp [fp_ho, fp_lrem, fp_gu, fp_tk_o]
theorem fp_ho_l {G : FpG} {t k c i : Nat} (hc : c = 10 ∨ c = 11 ∨ c = 12) (hi : (i : Int) + 1 < G 9 3) : fp_ho G t k c i = G c (if t ≤ i then i + 1 else i) := by
  have e : ∀ j, fp_gu (fp_gu (fp_tk G k (G 11 t)) 0 4 (G 0 4 + (if G 11 t = 2 then 5 else 2))) 0 6 (G 0 6 + 1) c j = G c j := fun j => by
    rw [fp_gu_c, fp_gu_c, fp_tk_o] <;> (rcases hc with rfl | rfl | rfl <;> rfl)
  have e9 : fp_gu (fp_gu (fp_tk G k (G 11 t)) 0 4 (G 0 4 + (if G 11 t = 2 then 5 else 2))) 0 6 (G 0 6 + 1) 9 3 = G 9 3 := by
    rw [fp_gu_c (by rfl), fp_gu_c (by rfl), fp_tk_o (by rfl) (by rfl)]
  unfold fp_ho fp_lrem
  simp only [e, e9]
  rw [if_neg (by omega)]
  by_cases ht : t ≤ i
  · rw [if_pos ⟨hc, ht, hi⟩, if_pos ht]
  · rw [if_neg (fun q => ht q.2.1), if_neg ht]
theorem fp_ho_3 {G : FpG} {t k p : Nat} : fp_ho G t k 3 p = if p = k ∧ G 11 t ≠ 1 then G 3 p - 1 else G 3 p := by
  unfold fp_ho fp_tk fp_tkl
  rw [fp_lrem_o (by rfl) (by rfl) (by rfl) (by rfl), fp_gu_c (by rfl), fp_gu_c (by rfl)]
  by_cases h0 : G 11 t = 0 <;> by_cases h1 : G 11 t = 1 <;> simp [h0, h1, fp_gu] <;> grind
theorem fp_ho_4 {G : FpG} {t k p : Nat} : fp_ho G t k 4 p = if p = k ∧ G 11 t ≠ 0 then G 4 p - 1 else G 4 p := by
  unfold fp_ho fp_tk fp_tkl
  rw [fp_lrem_o (by rfl) (by rfl) (by rfl) (by rfl), fp_gu_c (by rfl), fp_gu_c (by rfl)]
  by_cases h0 : G 11 t = 0 <;> by_cases h1 : G 11 t = 1 <;> simp [h0, h1, fp_gu] <;> grind
theorem fp_ho_0 {G : FpG} {t k i : Nat} : fp_ho G t k 0 i = if i = 6 then G 0 6 + 1 else if i = 4 then G 0 4 + (if G 11 t = 2 then 5 else 2) else G 0 i := by
  unfold fp_ho
  rw [fp_lrem_o (by rfl) (by rfl) (by rfl) (by rfl)]
  simp only [fp_gu, true_and, fp_tk_o (show (0 == 3) = false by rfl) (show (0 == 4) = false by rfl)]
noncomputable def fp_hoa : Nat → Nat → FpG → FpG
  | 0, _, G => G
  | m + 1, t, G => match fp_ff (fp_okB G t) (G 1 4).toNat with
    | none => fp_hoa m (t + 1) G
    | some k => fp_hoa m t (fp_ho G t k)
def fp_hc (G : FpG) (m : Nat) : Prop := (0 ≤ G 1 4 ∧ G 1 4 ≤ 10) ∧ G 9 3 ≤ 12 ∧ (∀ t : Nat, (t : Int) < G 9 3 → 0 ≤ G 10 t ∧ G 10 t < 10) ∧ (∀ p, p < 10 → (0 ≤ G 3 p ∧ G 3 p ≤ 2000000) ∧ (0 ≤ G 4 p ∧ G 4 p ≤ 2000000)) ∧ 0 ≤ G 0 4 ∧ G 0 4 + 5 * m ≤ 3000000 ∧ 0 ≤ G 0 6 ∧ G 0 6 + m ≤ 3000000
theorem fp_hc_s {G : FpG} {m : Nat} (h : fp_hc G (m + 1)) : fp_hc G m := by
  obtain ⟨h1, h2, h3, h4, h5, h6, h7, h8⟩ := h
  exact ⟨h1, h2, h3, h4, h5, by omega, h7, by omega⟩
theorem fp_hc_ho {G : FpG} {m t k : Nat} (h : fp_hc G (m + 1)) (ht : (t : Int) < G 9 3) (hk : k < 10) (hh : fp_has G k (G 11 t)) : fp_hc (fp_ho G t k) m := by
  obtain ⟨h1, h2, h3, h4, h5, h6, h7, h8⟩ := h
  have hk4 := h4 k hk
  unfold fp_has at hh
  refine ⟨by rw [fp_ho_1]; exact h1, by rw [fp_ho_93]; omega, fun i hi => ?_, fun p hp => ?_, ?_, ?_, ?_, ?_⟩
  · rw [fp_ho_93] at hi
    rw [fp_ho_l (Or.inl rfl) (by omega)]
    split <;> exact h3 _ (by omega)
  · have := h4 p hp
    rw [fp_ho_3, fp_ho_4]
    refine ⟨?_, ?_⟩
    · split
      · rename_i q; obtain ⟨rfl, q⟩ := q; omega
      · omega
    · split
      · rename_i q; obtain ⟨rfl, q⟩ := q; omega
      · omega
  · rw [fp_ho_0]; simp; split <;> omega
  · rw [fp_ho_0]; simp; split <;> omega
  · rw [fp_ho_0]; simp; omega
  · rw [fp_ho_0]; simp; omega
set_option maxHeartbeats 600000 in
set_option maxRecDepth 100000 in
theorem lp_hoa {L d g : Nat} {bf : Int} {Q : FpQ} (hbf : 0 ≤ bf ∧ bf ≤ 12) : ∀ (m t : Nat) (H : FpH) (l4 : Option FpV) (i : Int), i + m = bf → 0 ≤ i → (t : Int) + m = H g 9 3 → fp_hc (H g) m → Q (some (.inl (bf - fp_hoa m t (H g) 9 3))) (fp_g H g (fp_hoa m t (H g))) → fp_Wp L (d + 4) 43 12 [some (.inr (g, 0)), some (.inl bf), some (.inl (t : Int)), some (.inl i), l4] [] H Q := by
  intro m
  induction m with
  | zero =>
    intro t H l4 i hi hi0 ht hc hq
    have h9 := hc.2.1
    simp only [fp_hoa, fp_g_i] at hq
    refine fp_go 1000 [12] (fun KN KC hN hC => ?_)
    conv => whnf
    (try simp only [Int.reduceToNat, Int.toNat_natCast, fp_up_c, fp_up_s, fp_up_i, fp_cp_c, fp_g_s, Nat.reduceBEq, Int.reduceAdd, Int.reduceSub, Int.reduceNeg, Int.reduceMul, fp_gu_c, fp_gu_s, fp_lose_o, fp_scut_o, fp_tk_o, fp_lrem_o])
    (repeat' first
        | (refine And.intro (by first | omega | (unfold fp_rg; omega)) ?_; (try intro _); (conv => whnf); (try simp only [Int.reduceToNat, Int.toNat_natCast, fp_up_c, fp_up_s, fp_up_i, fp_cp_c, fp_g_s, Nat.reduceBEq, Int.reduceAdd, Int.reduceSub, Int.reduceNeg, Int.reduceMul, fp_gu_c, fp_gu_s, fp_lose_o, fp_scut_o, fp_tk_o, fp_lrem_o]))
        | (refine And.intro (fun _ => ?_) (fun _ => ?_) <;> first | (exfalso; omega) | (rename_i hz_; exact absurd trivial hz_) | ((conv => whnf); (try simp only [Int.reduceToNat, Int.toNat_natCast, fp_up_c, fp_up_s, fp_up_i, fp_cp_c, fp_g_s, Nat.reduceBEq, Int.reduceAdd, Int.reduceSub, Int.reduceNeg, Int.reduceMul, fp_gu_c, fp_gu_s, fp_lose_o, fp_scut_o, fp_tk_o, fp_lrem_o])))
        | (refine And.intro (by simp [fp_rg, fp_up, fp_cp] <;> omega) ?_; (conv => whnf); (try simp only [Int.reduceToNat, Int.toNat_natCast, fp_up_c, fp_up_s, fp_up_i, fp_cp_c, fp_g_s, Nat.reduceBEq, Int.reduceAdd, Int.reduceSub, Int.reduceNeg, Int.reduceMul, fp_gu_c, fp_gu_s, fp_lose_o, fp_scut_o, fp_tk_o, fp_lrem_o]))
        | fail)
    exact hq
  | succ m ih =>
    intro t H l4 i hi hi0 ht hc hq
    have h9 := hc.2.1
    have ht9 : (t : Int) < H g 9 3 := by omega
    rcases fp_ff_out (f := fp_okB (H g) t) (H g 1 4).toNat with ⟨r, h1, h2, h3, h4⟩ | ⟨h1, h2⟩
    · have hok := fp_dc_i h3
      have hr : r < 10 := by have := hc.1; omega
      have e1 : fp_fr (H g) t = (r : Int) := by unfold fp_fr; rw [h1]
      have e2 : fp_hoa (m + 1) t (H g) = fp_hoa m t (fp_ho (H g) t r) := by simp only [fp_hoa, h1]
      rw [e2] at hq
      have hst := hc.2.2.2.1 r hr
      refine fp_go 1000 [12] (fun KN KC hN hC => ?_)
      conv => whnf
      (try simp only [Int.reduceToNat, Int.toNat_natCast, fp_up_c, fp_up_s, fp_up_i, fp_cp_c, fp_g_s, Nat.reduceBEq, Int.reduceAdd, Int.reduceSub, Int.reduceNeg, Int.reduceMul, fp_gu_c, fp_gu_s, fp_lose_o, fp_scut_o, fp_tk_o, fp_lrem_o])
      (repeat' first
          | (refine And.intro (by first | omega | (unfold fp_rg; omega)) ?_; (try intro _); (conv => whnf); (try simp only [Int.reduceToNat, Int.toNat_natCast, fp_up_c, fp_up_s, fp_up_i, fp_cp_c, fp_g_s, Nat.reduceBEq, Int.reduceAdd, Int.reduceSub, Int.reduceNeg, Int.reduceMul, fp_gu_c, fp_gu_s, fp_lose_o, fp_scut_o, fp_tk_o, fp_lrem_o]))
          | (refine And.intro (fun _ => ?_) (fun _ => ?_) <;> first | (exfalso; omega) | (rename_i hz_; exact absurd trivial hz_) | ((conv => whnf); (try simp only [Int.reduceToNat, Int.toNat_natCast, fp_up_c, fp_up_s, fp_up_i, fp_cp_c, fp_g_s, Nat.reduceBEq, Int.reduceAdd, Int.reduceSub, Int.reduceNeg, Int.reduceMul, fp_gu_c, fp_gu_s, fp_lose_o, fp_scut_o, fp_tk_o, fp_lrem_o])))
          | (refine And.intro (by simp [fp_rg, fp_up, fp_cp] <;> omega) ?_; (conv => whnf); (try simp only [Int.reduceToNat, Int.toNat_natCast, fp_up_c, fp_up_s, fp_up_i, fp_cp_c, fp_g_s, Nat.reduceBEq, Int.reduceAdd, Int.reduceSub, Int.reduceNeg, Int.reduceMul, fp_gu_c, fp_gu_s, fp_lose_o, fp_scut_o, fp_tk_o, fp_lrem_o]))
          | fail)
      refine hC _ _ _ _ ⟨_, rfl, ?_⟩
      refine sp_findFor (by omega) hc.1 (hc.2.2.1 t ht9) ?_
      rw [e1]
      conv => whnf
      (try simp only [Int.reduceToNat, Int.toNat_natCast, fp_up_c, fp_up_s, fp_up_i, fp_cp_c, fp_g_s, Nat.reduceBEq, Int.reduceAdd, Int.reduceSub, Int.reduceNeg, Int.reduceMul, fp_gu_c, fp_gu_s, fp_lose_o, fp_scut_o, fp_tk_o, fp_lrem_o])
      (repeat' first
          | (refine And.intro (by first | omega | (unfold fp_rg; omega)) ?_; (try intro _); (conv => whnf); (try simp only [Int.reduceToNat, Int.toNat_natCast, fp_up_c, fp_up_s, fp_up_i, fp_cp_c, fp_g_s, Nat.reduceBEq, Int.reduceAdd, Int.reduceSub, Int.reduceNeg, Int.reduceMul, fp_gu_c, fp_gu_s, fp_lose_o, fp_scut_o, fp_tk_o, fp_lrem_o]))
          | (refine And.intro (fun _ => ?_) (fun _ => ?_) <;> first | (exfalso; omega) | (rename_i hz_; exact absurd trivial hz_) | ((conv => whnf); (try simp only [Int.reduceToNat, Int.toNat_natCast, fp_up_c, fp_up_s, fp_up_i, fp_cp_c, fp_g_s, Nat.reduceBEq, Int.reduceAdd, Int.reduceSub, Int.reduceNeg, Int.reduceMul, fp_gu_c, fp_gu_s, fp_lose_o, fp_scut_o, fp_tk_o, fp_lrem_o])))
          | (refine And.intro (by simp [fp_rg, fp_up, fp_cp] <;> omega) ?_; (conv => whnf); (try simp only [Int.reduceToNat, Int.toNat_natCast, fp_up_c, fp_up_s, fp_up_i, fp_cp_c, fp_g_s, Nat.reduceBEq, Int.reduceAdd, Int.reduceSub, Int.reduceNeg, Int.reduceMul, fp_gu_c, fp_gu_s, fp_lose_o, fp_scut_o, fp_tk_o, fp_lrem_o]))
          | fail)
      refine hC _ _ _ _ ⟨_, rfl, ?_⟩
      refine sp_handOver ⟨ht9, h9⟩ hr ⟨hst.1.1, hst.1.2, hst.2.1, hst.2.2⟩ (by have := hc.2.2.2.2; omega) ?_
      conv => whnf
      (try simp only [Int.reduceToNat, Int.toNat_natCast, fp_up_c, fp_up_s, fp_up_i, fp_cp_c, fp_g_s, Nat.reduceBEq, Int.reduceAdd, Int.reduceSub, Int.reduceNeg, Int.reduceMul, fp_gu_c, fp_gu_s, fp_lose_o, fp_scut_o, fp_tk_o, fp_lrem_o])
      (repeat' first
          | (refine And.intro (by first | omega | (unfold fp_rg; omega)) ?_; (try intro _); (conv => whnf); (try simp only [Int.reduceToNat, Int.toNat_natCast, fp_up_c, fp_up_s, fp_up_i, fp_cp_c, fp_g_s, Nat.reduceBEq, Int.reduceAdd, Int.reduceSub, Int.reduceNeg, Int.reduceMul, fp_gu_c, fp_gu_s, fp_lose_o, fp_scut_o, fp_tk_o, fp_lrem_o]))
          | (refine And.intro (fun _ => ?_) (fun _ => ?_) <;> first | (exfalso; omega) | (rename_i hz_; exact absurd trivial hz_) | ((conv => whnf); (try simp only [Int.reduceToNat, Int.toNat_natCast, fp_up_c, fp_up_s, fp_up_i, fp_cp_c, fp_g_s, Nat.reduceBEq, Int.reduceAdd, Int.reduceSub, Int.reduceNeg, Int.reduceMul, fp_gu_c, fp_gu_s, fp_lose_o, fp_scut_o, fp_tk_o, fp_lrem_o])))
          | (refine And.intro (by simp [fp_rg, fp_up, fp_cp] <;> omega) ?_; (conv => whnf); (try simp only [Int.reduceToNat, Int.toNat_natCast, fp_up_c, fp_up_s, fp_up_i, fp_cp_c, fp_g_s, Nat.reduceBEq, Int.reduceAdd, Int.reduceSub, Int.reduceNeg, Int.reduceMul, fp_gu_c, fp_gu_s, fp_lose_o, fp_scut_o, fp_tk_o, fp_lrem_o]))
          | fail)
      refine hN _ _ _ _ (ih t _ _ _ (by omega) (by omega) (by rw [fp_g_s, fp_ho_93]; omega) (by rw [fp_g_s]; exact fp_hc_ho hc ht9 hr hok.2) ?_)
      rw [fp_g_s, fp_g_g]
      exact hq
    · have e1 : fp_fr (H g) t = -5 := by unfold fp_fr; rw [h1]
      have e2 : fp_hoa (m + 1) t (H g) = fp_hoa m (t + 1) (H g) := by simp only [fp_hoa, h1]
      rw [e2] at hq
      refine fp_go 1000 [12] (fun KN KC hN hC => ?_)
      conv => whnf
      (try simp only [Int.reduceToNat, Int.toNat_natCast, fp_up_c, fp_up_s, fp_up_i, fp_cp_c, fp_g_s, Nat.reduceBEq, Int.reduceAdd, Int.reduceSub, Int.reduceNeg, Int.reduceMul, fp_gu_c, fp_gu_s, fp_lose_o, fp_scut_o, fp_tk_o, fp_lrem_o])
      (repeat' first
          | (refine And.intro (by first | omega | (unfold fp_rg; omega)) ?_; (try intro _); (conv => whnf); (try simp only [Int.reduceToNat, Int.toNat_natCast, fp_up_c, fp_up_s, fp_up_i, fp_cp_c, fp_g_s, Nat.reduceBEq, Int.reduceAdd, Int.reduceSub, Int.reduceNeg, Int.reduceMul, fp_gu_c, fp_gu_s, fp_lose_o, fp_scut_o, fp_tk_o, fp_lrem_o]))
          | (refine And.intro (fun _ => ?_) (fun _ => ?_) <;> first | (exfalso; omega) | (rename_i hz_; exact absurd trivial hz_) | ((conv => whnf); (try simp only [Int.reduceToNat, Int.toNat_natCast, fp_up_c, fp_up_s, fp_up_i, fp_cp_c, fp_g_s, Nat.reduceBEq, Int.reduceAdd, Int.reduceSub, Int.reduceNeg, Int.reduceMul, fp_gu_c, fp_gu_s, fp_lose_o, fp_scut_o, fp_tk_o, fp_lrem_o])))
          | (refine And.intro (by simp [fp_rg, fp_up, fp_cp] <;> omega) ?_; (conv => whnf); (try simp only [Int.reduceToNat, Int.toNat_natCast, fp_up_c, fp_up_s, fp_up_i, fp_cp_c, fp_g_s, Nat.reduceBEq, Int.reduceAdd, Int.reduceSub, Int.reduceNeg, Int.reduceMul, fp_gu_c, fp_gu_s, fp_lose_o, fp_scut_o, fp_tk_o, fp_lrem_o]))
          | fail)
      refine hC _ _ _ _ ⟨_, rfl, ?_⟩
      refine sp_findFor (by omega) hc.1 (hc.2.2.1 t ht9) ?_
      rw [e1]
      conv => whnf
      (try simp only [Int.reduceToNat, Int.toNat_natCast, fp_up_c, fp_up_s, fp_up_i, fp_cp_c, fp_g_s, Nat.reduceBEq, Int.reduceAdd, Int.reduceSub, Int.reduceNeg, Int.reduceMul, fp_gu_c, fp_gu_s, fp_lose_o, fp_scut_o, fp_tk_o, fp_lrem_o])
      (repeat' first
          | (refine And.intro (by first | omega | (unfold fp_rg; omega)) ?_; (try intro _); (conv => whnf); (try simp only [Int.reduceToNat, Int.toNat_natCast, fp_up_c, fp_up_s, fp_up_i, fp_cp_c, fp_g_s, Nat.reduceBEq, Int.reduceAdd, Int.reduceSub, Int.reduceNeg, Int.reduceMul, fp_gu_c, fp_gu_s, fp_lose_o, fp_scut_o, fp_tk_o, fp_lrem_o]))
          | (refine And.intro (fun _ => ?_) (fun _ => ?_) <;> first | (exfalso; omega) | (rename_i hz_; exact absurd trivial hz_) | ((conv => whnf); (try simp only [Int.reduceToNat, Int.toNat_natCast, fp_up_c, fp_up_s, fp_up_i, fp_cp_c, fp_g_s, Nat.reduceBEq, Int.reduceAdd, Int.reduceSub, Int.reduceNeg, Int.reduceMul, fp_gu_c, fp_gu_s, fp_lose_o, fp_scut_o, fp_tk_o, fp_lrem_o])))
          | (refine And.intro (by simp [fp_rg, fp_up, fp_cp] <;> omega) ?_; (conv => whnf); (try simp only [Int.reduceToNat, Int.toNat_natCast, fp_up_c, fp_up_s, fp_up_i, fp_cp_c, fp_g_s, Nat.reduceBEq, Int.reduceAdd, Int.reduceSub, Int.reduceNeg, Int.reduceMul, fp_gu_c, fp_gu_s, fp_lose_o, fp_scut_o, fp_tk_o, fp_lrem_o]))
          | fail)
      exact hN _ _ _ _ (ih (t + 1) H _ _ (by omega) (by omega) (by omega) (fp_hc_s hc) hq)
set_option maxHeartbeats 600000 in
set_option maxRecDepth 100000 in
theorem sp_hoa {L d g : Nat} {H : FpH} {Q : FpQ} (h0 : 0 ≤ H g 9 3) (hc : fp_hc (H g) 12) (hq : Q (some (.inl (H g 9 3 - fp_hoa (H g 9 3).toNat 0 (H g) 9 3))) (fp_g H g (fp_hoa (H g 9 3).toNat 0 (H g)))) : fp_Wp L (d + 4) 43 0 (fp_en 43 [.inr (g, 0)]) [] H Q := by
  have h9 := hc.2.1
  refine fp_go 1000 [12] (fun KN KC hN hC => ?_)
  conv => whnf
  (try simp only [Int.reduceToNat, Int.toNat_natCast, fp_up_c, fp_up_s, fp_up_i, fp_cp_c, fp_g_s, Nat.reduceBEq, Int.reduceAdd, Int.reduceSub, Int.reduceNeg, Int.reduceMul, fp_gu_c, fp_gu_s, fp_lose_o, fp_scut_o, fp_tk_o, fp_lrem_o])
  (repeat' first
      | (refine And.intro (by first | omega | (unfold fp_rg; omega)) ?_; (try intro _); (conv => whnf); (try simp only [Int.reduceToNat, Int.toNat_natCast, fp_up_c, fp_up_s, fp_up_i, fp_cp_c, fp_g_s, Nat.reduceBEq, Int.reduceAdd, Int.reduceSub, Int.reduceNeg, Int.reduceMul, fp_gu_c, fp_gu_s, fp_lose_o, fp_scut_o, fp_tk_o, fp_lrem_o]))
      | (refine And.intro (fun _ => ?_) (fun _ => ?_) <;> first | (exfalso; omega) | (rename_i hz_; exact absurd trivial hz_) | ((conv => whnf); (try simp only [Int.reduceToNat, Int.toNat_natCast, fp_up_c, fp_up_s, fp_up_i, fp_cp_c, fp_g_s, Nat.reduceBEq, Int.reduceAdd, Int.reduceSub, Int.reduceNeg, Int.reduceMul, fp_gu_c, fp_gu_s, fp_lose_o, fp_scut_o, fp_tk_o, fp_lrem_o])))
      | (refine And.intro (by simp [fp_rg, fp_up, fp_cp] <;> omega) ?_; (conv => whnf); (try simp only [Int.reduceToNat, Int.toNat_natCast, fp_up_c, fp_up_s, fp_up_i, fp_cp_c, fp_g_s, Nat.reduceBEq, Int.reduceAdd, Int.reduceSub, Int.reduceNeg, Int.reduceMul, fp_gu_c, fp_gu_s, fp_lose_o, fp_scut_o, fp_tk_o, fp_lrem_o]))
      | fail)
  exact hN _ _ _ _ (lp_hoa (by omega) (H g 9 3).toNat 0 H _ _ (by omega) (by omega) (by omega) (by
    obtain ⟨h1, h2, h3, h4, h5, h6, h7, h8⟩ := hc
    exact ⟨h1, h2, h3, h4, h5, by omega, h7, by omega⟩) hq)
set_option maxHeartbeats 600000 in
set_option maxRecDepth 100000 in
theorem lp_inStock {L d g : Nat} {H : FpH} {Q : FpQ} (h : 0 ≤ H g 1 4 ∧ H g 1 4 ≤ 10) (hl : ∀ p : Nat, (p : Int) < H g 1 4 → (0 ≤ H g 3 p ∧ H g 3 p ≤ 2000000) ∧ (0 ≤ H g 4 p ∧ H g 4 p ≤ 2000000)) (hq : Q (some (.inl (fp_sm (fun p => H g 3 p + H g 4 p) (H g 1 4).toNat))) H) : ∀ (m : Nat) (i fd : Int), 0 ≤ i → i + m = H g 1 4 → fd = fp_sm (fun p => H g 3 p + H g 4 p) i.toNat → fp_Wp L d 25 4 [some (.inr (g, 1)), some (.inl fd), some (.inl i)] [] H Q := by
  intro m
  induction m with
  | zero =>
    intro i fd h0 hi hf
    refine fp_go 1000 [4] (fun KN KC hN hC => ?_)
    conv => whnf
    (try simp only [Int.reduceToNat, Int.toNat_natCast, fp_up_c, fp_up_s, fp_up_i, fp_cp_c, fp_g_s, Nat.reduceBEq, Int.reduceAdd, Int.reduceSub, Int.reduceNeg, Int.reduceMul, fp_gu_c, fp_gu_s, fp_lose_o, fp_scut_o, fp_tk_o, fp_lrem_o])
    (repeat' first
        | (refine And.intro (by first | omega | (unfold fp_rg; omega)) ?_; (try intro _); (conv => whnf); (try simp only [Int.reduceToNat, Int.toNat_natCast, fp_up_c, fp_up_s, fp_up_i, fp_cp_c, fp_g_s, Nat.reduceBEq, Int.reduceAdd, Int.reduceSub, Int.reduceNeg, Int.reduceMul, fp_gu_c, fp_gu_s, fp_lose_o, fp_scut_o, fp_tk_o, fp_lrem_o]))
        | (refine And.intro (fun _ => ?_) (fun _ => ?_) <;> first | (exfalso; omega) | (rename_i hz_; exact absurd trivial hz_) | ((conv => whnf); (try simp only [Int.reduceToNat, Int.toNat_natCast, fp_up_c, fp_up_s, fp_up_i, fp_cp_c, fp_g_s, Nat.reduceBEq, Int.reduceAdd, Int.reduceSub, Int.reduceNeg, Int.reduceMul, fp_gu_c, fp_gu_s, fp_lose_o, fp_scut_o, fp_tk_o, fp_lrem_o])))
        | (refine And.intro (by simp [fp_rg, fp_up, fp_cp] <;> omega) ?_; (conv => whnf); (try simp only [Int.reduceToNat, Int.toNat_natCast, fp_up_c, fp_up_s, fp_up_i, fp_cp_c, fp_g_s, Nat.reduceBEq, Int.reduceAdd, Int.reduceSub, Int.reduceNeg, Int.reduceMul, fp_gu_c, fp_gu_s, fp_lose_o, fp_scut_o, fp_tk_o, fp_lrem_o]))
        | fail)
    rw [hf, show i = H g 1 4 by omega]; exact hq
  | succ m ih =>
    intro i fd h0 hi hf
    have hle := fp_sm_le (f := fun p => H g 3 p + H g 4 p) (B := 4000000) i.toNat (fun j hj => by have := hl j (by omega); omega)
    have hl1 := hl i.toNat (by omega)
    refine fp_go 1000 [4] (fun KN KC hN hC => ?_)
    conv => whnf
    (try simp only [Int.reduceToNat, Int.toNat_natCast, fp_up_c, fp_up_s, fp_up_i, fp_cp_c, fp_g_s, Nat.reduceBEq, Int.reduceAdd, Int.reduceSub, Int.reduceNeg, Int.reduceMul, fp_gu_c, fp_gu_s, fp_lose_o, fp_scut_o, fp_tk_o, fp_lrem_o])
    (repeat' first
        | (refine And.intro (by first | omega | (unfold fp_rg; omega)) ?_; (try intro _); (conv => whnf); (try simp only [Int.reduceToNat, Int.toNat_natCast, fp_up_c, fp_up_s, fp_up_i, fp_cp_c, fp_g_s, Nat.reduceBEq, Int.reduceAdd, Int.reduceSub, Int.reduceNeg, Int.reduceMul, fp_gu_c, fp_gu_s, fp_lose_o, fp_scut_o, fp_tk_o, fp_lrem_o]))
        | (refine And.intro (fun _ => ?_) (fun _ => ?_) <;> first | (exfalso; omega) | (rename_i hz_; exact absurd trivial hz_) | ((conv => whnf); (try simp only [Int.reduceToNat, Int.toNat_natCast, fp_up_c, fp_up_s, fp_up_i, fp_cp_c, fp_g_s, Nat.reduceBEq, Int.reduceAdd, Int.reduceSub, Int.reduceNeg, Int.reduceMul, fp_gu_c, fp_gu_s, fp_lose_o, fp_scut_o, fp_tk_o, fp_lrem_o])))
        | (refine And.intro (by simp [fp_rg, fp_up, fp_cp] <;> omega) ?_; (conv => whnf); (try simp only [Int.reduceToNat, Int.toNat_natCast, fp_up_c, fp_up_s, fp_up_i, fp_cp_c, fp_g_s, Nat.reduceBEq, Int.reduceAdd, Int.reduceSub, Int.reduceNeg, Int.reduceMul, fp_gu_c, fp_gu_s, fp_lose_o, fp_scut_o, fp_tk_o, fp_lrem_o]))
        | fail)
    exact hN _ _ _ _ (ih _ _ (by omega) (by omega) (by rw [hf]; exact fp_sm_s (f := fun p => H g 3 p + H g 4 p) h0))
set_option maxHeartbeats 600000 in
set_option maxRecDepth 100000 in
theorem sp_inStock {L d g : Nat} {H : FpH} {Q : FpQ} (h : 0 ≤ H g 1 4 ∧ H g 1 4 ≤ 10) (hl : ∀ p : Nat, (p : Int) < H g 1 4 → (0 ≤ H g 3 p ∧ H g 3 p ≤ 2000000) ∧ (0 ≤ H g 4 p ∧ H g 4 p ≤ 2000000)) (hq : Q (some (.inl (fp_sm (fun p => H g 3 p + H g 4 p) (H g 1 4).toNat))) H) : fp_Wp L d 25 0 (fp_en 25 [.inr (g, 1)]) [] H Q := by
  refine fp_go 1000 [4] (fun KN KC hN hC => ?_)
  conv => whnf
  (try simp only [Int.reduceToNat, Int.toNat_natCast, fp_up_c, fp_up_s, fp_up_i, fp_cp_c, fp_g_s, Nat.reduceBEq, Int.reduceAdd, Int.reduceSub, Int.reduceNeg, Int.reduceMul, fp_gu_c, fp_gu_s, fp_lose_o, fp_scut_o, fp_tk_o, fp_lrem_o])
  (repeat' first
      | (refine And.intro (by first | omega | (unfold fp_rg; omega)) ?_; (try intro _); (conv => whnf); (try simp only [Int.reduceToNat, Int.toNat_natCast, fp_up_c, fp_up_s, fp_up_i, fp_cp_c, fp_g_s, Nat.reduceBEq, Int.reduceAdd, Int.reduceSub, Int.reduceNeg, Int.reduceMul, fp_gu_c, fp_gu_s, fp_lose_o, fp_scut_o, fp_tk_o, fp_lrem_o]))
      | (refine And.intro (fun _ => ?_) (fun _ => ?_) <;> first | (exfalso; omega) | (rename_i hz_; exact absurd trivial hz_) | ((conv => whnf); (try simp only [Int.reduceToNat, Int.toNat_natCast, fp_up_c, fp_up_s, fp_up_i, fp_cp_c, fp_g_s, Nat.reduceBEq, Int.reduceAdd, Int.reduceSub, Int.reduceNeg, Int.reduceMul, fp_gu_c, fp_gu_s, fp_lose_o, fp_scut_o, fp_tk_o, fp_lrem_o])))
      | (refine And.intro (by simp [fp_rg, fp_up, fp_cp] <;> omega) ?_; (conv => whnf); (try simp only [Int.reduceToNat, Int.toNat_natCast, fp_up_c, fp_up_s, fp_up_i, fp_cp_c, fp_g_s, Nat.reduceBEq, Int.reduceAdd, Int.reduceSub, Int.reduceNeg, Int.reduceMul, fp_gu_c, fp_gu_s, fp_lose_o, fp_scut_o, fp_tk_o, fp_lrem_o]))
      | fail)
  exact hN _ _ _ _ (lp_inStock h hl hq (H g 1 4).toNat 0 0 (by omega) (by omega) rfl)
set_option maxHeartbeats 600000 in
set_option maxRecDepth 100000 in
theorem lp_cutSoFar {L d g : Nat} {H : FpH} {Q : FpQ} (h : 0 ≤ H g 1 4 ∧ H g 1 4 ≤ 10) (hl : ∀ p : Nat, (p : Int) < H g 1 4 → 0 ≤ H g 5 p ∧ H g 5 p ≤ 2000000) (hq : Q (some (.inl (fp_sm (H g 5) (H g 1 4).toNat))) H) : ∀ (m : Nat) (i fd : Int), 0 ≤ i → i + m = H g 1 4 → fd = fp_sm (H g 5) i.toNat → fp_Wp L d 26 4 [some (.inr (g, 1)), some (.inl fd), some (.inl i)] [] H Q := by
  intro m
  induction m with
  | zero =>
    intro i fd h0 hi hf
    refine fp_go 1000 [4] (fun KN KC hN hC => ?_)
    conv => whnf
    (try simp only [Int.reduceToNat, Int.toNat_natCast, fp_up_c, fp_up_s, fp_up_i, fp_cp_c, fp_g_s, Nat.reduceBEq, Int.reduceAdd, Int.reduceSub, Int.reduceNeg, Int.reduceMul, fp_gu_c, fp_gu_s, fp_lose_o, fp_scut_o, fp_tk_o, fp_lrem_o])
    (repeat' first
        | (refine And.intro (by first | omega | (unfold fp_rg; omega)) ?_; (try intro _); (conv => whnf); (try simp only [Int.reduceToNat, Int.toNat_natCast, fp_up_c, fp_up_s, fp_up_i, fp_cp_c, fp_g_s, Nat.reduceBEq, Int.reduceAdd, Int.reduceSub, Int.reduceNeg, Int.reduceMul, fp_gu_c, fp_gu_s, fp_lose_o, fp_scut_o, fp_tk_o, fp_lrem_o]))
        | (refine And.intro (fun _ => ?_) (fun _ => ?_) <;> first | (exfalso; omega) | (rename_i hz_; exact absurd trivial hz_) | ((conv => whnf); (try simp only [Int.reduceToNat, Int.toNat_natCast, fp_up_c, fp_up_s, fp_up_i, fp_cp_c, fp_g_s, Nat.reduceBEq, Int.reduceAdd, Int.reduceSub, Int.reduceNeg, Int.reduceMul, fp_gu_c, fp_gu_s, fp_lose_o, fp_scut_o, fp_tk_o, fp_lrem_o])))
        | (refine And.intro (by simp [fp_rg, fp_up, fp_cp] <;> omega) ?_; (conv => whnf); (try simp only [Int.reduceToNat, Int.toNat_natCast, fp_up_c, fp_up_s, fp_up_i, fp_cp_c, fp_g_s, Nat.reduceBEq, Int.reduceAdd, Int.reduceSub, Int.reduceNeg, Int.reduceMul, fp_gu_c, fp_gu_s, fp_lose_o, fp_scut_o, fp_tk_o, fp_lrem_o]))
        | fail)
    rw [hf, show i = H g 1 4 by omega]; exact hq
  | succ m ih =>
    intro i fd h0 hi hf
    have hle := fp_sm_le (f := H g 5) (B := 2000000) i.toNat (fun j hj => hl j (by omega))
    have hl1 := hl i.toNat (by omega)
    refine fp_go 1000 [4] (fun KN KC hN hC => ?_)
    conv => whnf
    (try simp only [Int.reduceToNat, Int.toNat_natCast, fp_up_c, fp_up_s, fp_up_i, fp_cp_c, fp_g_s, Nat.reduceBEq, Int.reduceAdd, Int.reduceSub, Int.reduceNeg, Int.reduceMul, fp_gu_c, fp_gu_s, fp_lose_o, fp_scut_o, fp_tk_o, fp_lrem_o])
    (repeat' first
        | (refine And.intro (by first | omega | (unfold fp_rg; omega)) ?_; (try intro _); (conv => whnf); (try simp only [Int.reduceToNat, Int.toNat_natCast, fp_up_c, fp_up_s, fp_up_i, fp_cp_c, fp_g_s, Nat.reduceBEq, Int.reduceAdd, Int.reduceSub, Int.reduceNeg, Int.reduceMul, fp_gu_c, fp_gu_s, fp_lose_o, fp_scut_o, fp_tk_o, fp_lrem_o]))
        | (refine And.intro (fun _ => ?_) (fun _ => ?_) <;> first | (exfalso; omega) | (rename_i hz_; exact absurd trivial hz_) | ((conv => whnf); (try simp only [Int.reduceToNat, Int.toNat_natCast, fp_up_c, fp_up_s, fp_up_i, fp_cp_c, fp_g_s, Nat.reduceBEq, Int.reduceAdd, Int.reduceSub, Int.reduceNeg, Int.reduceMul, fp_gu_c, fp_gu_s, fp_lose_o, fp_scut_o, fp_tk_o, fp_lrem_o])))
        | (refine And.intro (by simp [fp_rg, fp_up, fp_cp] <;> omega) ?_; (conv => whnf); (try simp only [Int.reduceToNat, Int.toNat_natCast, fp_up_c, fp_up_s, fp_up_i, fp_cp_c, fp_g_s, Nat.reduceBEq, Int.reduceAdd, Int.reduceSub, Int.reduceNeg, Int.reduceMul, fp_gu_c, fp_gu_s, fp_lose_o, fp_scut_o, fp_tk_o, fp_lrem_o]))
        | fail)
    exact hN _ _ _ _ (ih _ _ (by omega) (by omega) (by rw [hf]; exact fp_sm_s h0))
set_option maxHeartbeats 600000 in
set_option maxRecDepth 100000 in
theorem sp_cutSoFar {L d g : Nat} {H : FpH} {Q : FpQ} (h : 0 ≤ H g 1 4 ∧ H g 1 4 ≤ 10) (hl : ∀ p : Nat, (p : Int) < H g 1 4 → 0 ≤ H g 5 p ∧ H g 5 p ≤ 2000000) (hq : Q (some (.inl (fp_sm (H g 5) (H g 1 4).toNat))) H) : fp_Wp L d 26 0 (fp_en 26 [.inr (g, 1)]) [] H Q := by
  refine fp_go 1000 [4] (fun KN KC hN hC => ?_)
  conv => whnf
  (try simp only [Int.reduceToNat, Int.toNat_natCast, fp_up_c, fp_up_s, fp_up_i, fp_cp_c, fp_g_s, Nat.reduceBEq, Int.reduceAdd, Int.reduceSub, Int.reduceNeg, Int.reduceMul, fp_gu_c, fp_gu_s, fp_lose_o, fp_scut_o, fp_tk_o, fp_lrem_o])
  (repeat' first
      | (refine And.intro (by first | omega | (unfold fp_rg; omega)) ?_; (try intro _); (conv => whnf); (try simp only [Int.reduceToNat, Int.toNat_natCast, fp_up_c, fp_up_s, fp_up_i, fp_cp_c, fp_g_s, Nat.reduceBEq, Int.reduceAdd, Int.reduceSub, Int.reduceNeg, Int.reduceMul, fp_gu_c, fp_gu_s, fp_lose_o, fp_scut_o, fp_tk_o, fp_lrem_o]))
      | (refine And.intro (fun _ => ?_) (fun _ => ?_) <;> first | (exfalso; omega) | (rename_i hz_; exact absurd trivial hz_) | ((conv => whnf); (try simp only [Int.reduceToNat, Int.toNat_natCast, fp_up_c, fp_up_s, fp_up_i, fp_cp_c, fp_g_s, Nat.reduceBEq, Int.reduceAdd, Int.reduceSub, Int.reduceNeg, Int.reduceMul, fp_gu_c, fp_gu_s, fp_lose_o, fp_scut_o, fp_tk_o, fp_lrem_o])))
      | (refine And.intro (by simp [fp_rg, fp_up, fp_cp] <;> omega) ?_; (conv => whnf); (try simp only [Int.reduceToNat, Int.toNat_natCast, fp_up_c, fp_up_s, fp_up_i, fp_cp_c, fp_g_s, Nat.reduceBEq, Int.reduceAdd, Int.reduceSub, Int.reduceNeg, Int.reduceMul, fp_gu_c, fp_gu_s, fp_lose_o, fp_scut_o, fp_tk_o, fp_lrem_o]))
      | fail)
  exact hN _ _ _ _ (lp_cutSoFar h hl hq (H g 1 4).toNat 0 0 (by omega) (by omega) rfl)
def fp_po (H : FpH) : Int := if H 7 15 2 = 4 then (H 7 15 1 + 1) % 4 else H 7 15 1
def fp_pn (H : FpH) : Int := if H 7 15 2 = 4 then 3 else H 7 15 2
def fp_pk (H : FpH) : Nat := 3 + ((fp_po H + fp_pn H) % 4).toNat
/-- the heap behind history.push(stall) -/
def fp_push (H : FpH) : FpH := fun g => if g = fp_pk H then fp_cpG (H g) (H 0) else if g = 7 then fp_gu (fp_gu (H 7) 15 1 (fp_po H)) 15 2 (fp_pn H + 1) else H g
def fp_pop (H : FpH) : FpH := fun g => if g = 0 then fp_cpG (H 0) (H (3 + ((H 7 15 1 + (H 7 15 2 - 1)) % 4).toNat)) else if g = 7 then fp_gu (H 7) 15 2 (H 7 15 2 - 1) else H g
theorem fp_up_n {H : FpH} {g c i g' : Nat} {v : Int} (h : g' ≠ g) : fp_up H g c i v g' = H g' := by
  funext y z
  simp [fp_up, h]
set_option maxHeartbeats 600000 in
set_option maxRecDepth 100000 in
theorem sp_push {L d : Nat} {H : FpH} {Q : FpQ} (ho : 0 ≤ H 7 15 1 ∧ H 7 15 1 < 4) (hn : 0 ≤ H 7 15 2 ∧ H 7 15 2 ≤ 4) (hq : Q none (fp_push H)) : fp_Wp L (d + 2) 1 0 (fp_en 1 [.inr (7, 15), .inr (0, 0)]) [] H Q := by
  refine fp_go 1000 [] (fun KN KC hN hC => ?_)
  conv => whnf
  (try simp only [Int.reduceToNat, Int.toNat_natCast, fp_up_c, fp_up_s, fp_up_i, fp_cp_c, fp_g_s, Nat.reduceBEq, Int.reduceAdd, Int.reduceSub, Int.reduceNeg, Int.reduceMul, fp_gu_c, fp_gu_s, fp_lose_o, fp_scut_o, fp_tk_o, fp_lrem_o])
  (repeat' first
      | (refine And.intro (by first | omega | (unfold fp_rg; omega)) ?_; (try intro _); (conv => whnf); (try simp only [Int.reduceToNat, Int.toNat_natCast, fp_up_c, fp_up_s, fp_up_i, fp_cp_c, fp_g_s, Nat.reduceBEq, Int.reduceAdd, Int.reduceSub, Int.reduceNeg, Int.reduceMul, fp_gu_c, fp_gu_s, fp_lose_o, fp_scut_o, fp_tk_o, fp_lrem_o]))
      | (refine And.intro (fun _ => ?_) (fun _ => ?_) <;> first | (exfalso; omega) | (rename_i hz_; exact absurd trivial hz_) | ((conv => whnf); (try simp only [Int.reduceToNat, Int.toNat_natCast, fp_up_c, fp_up_s, fp_up_i, fp_cp_c, fp_g_s, Nat.reduceBEq, Int.reduceAdd, Int.reduceSub, Int.reduceNeg, Int.reduceMul, fp_gu_c, fp_gu_s, fp_lose_o, fp_scut_o, fp_tk_o, fp_lrem_o])))
      | (refine And.intro (by simp [fp_rg, fp_up, fp_cp] <;> omega) ?_; (conv => whnf); (try simp only [Int.reduceToNat, Int.toNat_natCast, fp_up_c, fp_up_s, fp_up_i, fp_cp_c, fp_g_s, Nat.reduceBEq, Int.reduceAdd, Int.reduceSub, Int.reduceNeg, Int.reduceMul, fp_gu_c, fp_gu_s, fp_lose_o, fp_scut_o, fp_tk_o, fp_lrem_o]))
      | fail)
  · rename_i h4
    have ek : 3 + (((H 7 15 1 + 1) % 4 + (H 7 15 2 - 1)) % 4).toNat = fp_pk H := by unfold fp_pk fp_po fp_pn; rw [if_pos h4, if_pos h4, h4]; rfl
    rw [ek]
    have hk : fp_pk H ≠ 7 := by rw [← ek]; omega
    have hk0 : fp_pk H ≠ 0 := by rw [← ek]; omega
    have e7 : ∀ (X : FpH) (G : FpG), fp_g X (fp_pk H) G 7 = X 7 := fun X G => fp_g_n (by omega)
    refine hC _ _ _ _ ⟨_, rfl, ?_⟩
    refine sp_copyFrom (by omega) ?_
    rw [fp_up_n hk, fp_up_n hk, fp_up_n (show 0 ≠ 7 by decide), fp_up_n (show 0 ≠ 7 by decide)]
    conv => whnf
    (try simp only [e7, Int.reduceToNat, Int.toNat_natCast, fp_up_c, fp_up_s, fp_up_i, fp_cp_c, fp_g_s, Nat.reduceBEq, Int.reduceAdd, Int.reduceSub, Int.reduceNeg, Int.reduceMul, fp_gu_c, fp_gu_s, fp_lose_o, fp_scut_o, fp_tk_o, fp_lrem_o])
    (repeat' first
        | (refine And.intro (by first | omega | (unfold fp_rg; omega)) ?_; (try intro _); (conv => whnf); (try simp only [e7, Int.reduceToNat, Int.toNat_natCast, fp_up_c, fp_up_s, fp_up_i, fp_cp_c, fp_g_s, Nat.reduceBEq, Int.reduceAdd, Int.reduceSub, Int.reduceNeg, Int.reduceMul, fp_gu_c, fp_gu_s, fp_lose_o, fp_scut_o, fp_tk_o, fp_lrem_o]))
        | (refine And.intro (fun _ => ?_) (fun _ => ?_) <;> first | (exfalso; omega) | (rename_i hz_; exact absurd trivial hz_) | ((conv => whnf); (try simp only [e7, Int.reduceToNat, Int.toNat_natCast, fp_up_c, fp_up_s, fp_up_i, fp_cp_c, fp_g_s, Nat.reduceBEq, Int.reduceAdd, Int.reduceSub, Int.reduceNeg, Int.reduceMul, fp_gu_c, fp_gu_s, fp_lose_o, fp_scut_o, fp_tk_o, fp_lrem_o])))
        | (refine And.intro (by simp [fp_rg, fp_up, fp_cp] <;> omega) ?_; (conv => whnf); (try simp only [e7, Int.reduceToNat, Int.toNat_natCast, fp_up_c, fp_up_s, fp_up_i, fp_cp_c, fp_g_s, Nat.reduceBEq, Int.reduceAdd, Int.reduceSub, Int.reduceNeg, Int.reduceMul, fp_gu_c, fp_gu_s, fp_lose_o, fp_scut_o, fp_tk_o, fp_lrem_o]))
        | fail)
    refine fp_eqQ hq ?_
    funext x y z
    rcases (show x = fp_pk H ∨ (x = 7 ∧ x ≠ fp_pk H) ∨ (x ≠ 7 ∧ x ≠ fp_pk H) by omega) with h | ⟨h, h'⟩ | ⟨h, h'⟩
    · simp [fp_push, h, hk, fp_up, fp_g]
    · subst h
      simp [fp_push, h', fp_up, fp_g, fp_gu, fp_po, fp_pn, h4]
      grind
    · simp [fp_push, h, h', fp_up, fp_g]
  · rename_i h4
    have ek : 3 + ((H 7 15 1 + H 7 15 2) % 4).toNat = fp_pk H := by unfold fp_pk fp_po fp_pn; rw [if_neg h4, if_neg h4]
    rw [ek]
    have hk : fp_pk H ≠ 7 := by rw [← ek]; omega
    have hk0 : fp_pk H ≠ 0 := by rw [← ek]; omega
    have e7 : ∀ (X : FpH) (G : FpG), fp_g X (fp_pk H) G 7 = X 7 := fun X G => fp_g_n (by omega)
    refine hC _ _ _ _ ⟨_, rfl, ?_⟩
    refine sp_copyFrom (by omega) ?_
    conv => whnf
    (try simp only [e7, Int.reduceToNat, Int.toNat_natCast, fp_up_c, fp_up_s, fp_up_i, fp_cp_c, fp_g_s, Nat.reduceBEq, Int.reduceAdd, Int.reduceSub, Int.reduceNeg, Int.reduceMul, fp_gu_c, fp_gu_s, fp_lose_o, fp_scut_o, fp_tk_o, fp_lrem_o])
    (repeat' first
        | (refine And.intro (by first | omega | (unfold fp_rg; omega)) ?_; (try intro _); (conv => whnf); (try simp only [e7, Int.reduceToNat, Int.toNat_natCast, fp_up_c, fp_up_s, fp_up_i, fp_cp_c, fp_g_s, Nat.reduceBEq, Int.reduceAdd, Int.reduceSub, Int.reduceNeg, Int.reduceMul, fp_gu_c, fp_gu_s, fp_lose_o, fp_scut_o, fp_tk_o, fp_lrem_o]))
        | (refine And.intro (fun _ => ?_) (fun _ => ?_) <;> first | (exfalso; omega) | (rename_i hz_; exact absurd trivial hz_) | ((conv => whnf); (try simp only [e7, Int.reduceToNat, Int.toNat_natCast, fp_up_c, fp_up_s, fp_up_i, fp_cp_c, fp_g_s, Nat.reduceBEq, Int.reduceAdd, Int.reduceSub, Int.reduceNeg, Int.reduceMul, fp_gu_c, fp_gu_s, fp_lose_o, fp_scut_o, fp_tk_o, fp_lrem_o])))
        | (refine And.intro (by simp [fp_rg, fp_up, fp_cp] <;> omega) ?_; (conv => whnf); (try simp only [e7, Int.reduceToNat, Int.toNat_natCast, fp_up_c, fp_up_s, fp_up_i, fp_cp_c, fp_g_s, Nat.reduceBEq, Int.reduceAdd, Int.reduceSub, Int.reduceNeg, Int.reduceMul, fp_gu_c, fp_gu_s, fp_lose_o, fp_scut_o, fp_tk_o, fp_lrem_o]))
        | fail)
    refine fp_eqQ hq ?_
    funext x y z
    rcases (show x = fp_pk H ∨ (x = 7 ∧ x ≠ fp_pk H) ∨ (x ≠ 7 ∧ x ≠ fp_pk H) by omega) with h | ⟨h, h'⟩ | ⟨h, h'⟩
    · simp [fp_push, h, hk, fp_up, fp_g]
    · subst h
      simp [fp_push, h', fp_up, fp_g, fp_gu, fp_po, fp_pn, h4]
      grind
    · simp [fp_push, h, h', fp_up, fp_g]
set_option maxHeartbeats 600000 in
set_option maxRecDepth 100000 in
theorem sp_pop {L d : Nat} {H : FpH} {Q : FpQ} (ho : 0 ≤ H 7 15 1 ∧ H 7 15 1 < 4) (hn : 1 ≤ H 7 15 2 ∧ H 7 15 2 ≤ 4) (hq : Q none (fp_pop H)) : fp_Wp L (d + 2) 2 0 (fp_en 2 [.inr (7, 15), .inr (0, 0)]) [] H Q := by
  refine fp_go 1000 [] (fun KN KC hN hC => ?_)
  conv => whnf
  (try simp only [Int.reduceToNat, Int.toNat_natCast, fp_up_c, fp_up_s, fp_up_i, fp_cp_c, fp_g_s, Nat.reduceBEq, Int.reduceAdd, Int.reduceSub, Int.reduceNeg, Int.reduceMul, fp_gu_c, fp_gu_s, fp_lose_o, fp_scut_o, fp_tk_o, fp_lrem_o])
  (repeat' first
      | (refine And.intro (by first | omega | (unfold fp_rg; omega)) ?_; (try intro _); (conv => whnf); (try simp only [Int.reduceToNat, Int.toNat_natCast, fp_up_c, fp_up_s, fp_up_i, fp_cp_c, fp_g_s, Nat.reduceBEq, Int.reduceAdd, Int.reduceSub, Int.reduceNeg, Int.reduceMul, fp_gu_c, fp_gu_s, fp_lose_o, fp_scut_o, fp_tk_o, fp_lrem_o]))
      | (refine And.intro (fun _ => ?_) (fun _ => ?_) <;> first | (exfalso; omega) | (rename_i hz_; exact absurd trivial hz_) | ((conv => whnf); (try simp only [Int.reduceToNat, Int.toNat_natCast, fp_up_c, fp_up_s, fp_up_i, fp_cp_c, fp_g_s, Nat.reduceBEq, Int.reduceAdd, Int.reduceSub, Int.reduceNeg, Int.reduceMul, fp_gu_c, fp_gu_s, fp_lose_o, fp_scut_o, fp_tk_o, fp_lrem_o])))
      | (refine And.intro (by simp [fp_rg, fp_up, fp_cp] <;> omega) ?_; (conv => whnf); (try simp only [Int.reduceToNat, Int.toNat_natCast, fp_up_c, fp_up_s, fp_up_i, fp_cp_c, fp_g_s, Nat.reduceBEq, Int.reduceAdd, Int.reduceSub, Int.reduceNeg, Int.reduceMul, fp_gu_c, fp_gu_s, fp_lose_o, fp_scut_o, fp_tk_o, fp_lrem_o]))
      | fail)
  have hk : 3 + ((H 7 15 1 + (H 7 15 2 - 1)) % 4).toNat ≠ 7 := by omega
  refine hC _ _ _ _ ⟨_, rfl, ?_⟩
  refine sp_copyFrom (by omega) ?_
  rw [fp_up_n hk, fp_up_n (show 0 ≠ 7 by decide)]
  conv => whnf
  (try simp only [Int.reduceToNat, Int.toNat_natCast, fp_up_c, fp_up_s, fp_up_i, fp_cp_c, fp_g_s, Nat.reduceBEq, Int.reduceAdd, Int.reduceSub, Int.reduceNeg, Int.reduceMul, fp_gu_c, fp_gu_s, fp_lose_o, fp_scut_o, fp_tk_o, fp_lrem_o])
  (repeat' first
      | (refine And.intro (by first | omega | (unfold fp_rg; omega)) ?_; (try intro _); (conv => whnf); (try simp only [Int.reduceToNat, Int.toNat_natCast, fp_up_c, fp_up_s, fp_up_i, fp_cp_c, fp_g_s, Nat.reduceBEq, Int.reduceAdd, Int.reduceSub, Int.reduceNeg, Int.reduceMul, fp_gu_c, fp_gu_s, fp_lose_o, fp_scut_o, fp_tk_o, fp_lrem_o]))
      | (refine And.intro (fun _ => ?_) (fun _ => ?_) <;> first | (exfalso; omega) | (rename_i hz_; exact absurd trivial hz_) | ((conv => whnf); (try simp only [Int.reduceToNat, Int.toNat_natCast, fp_up_c, fp_up_s, fp_up_i, fp_cp_c, fp_g_s, Nat.reduceBEq, Int.reduceAdd, Int.reduceSub, Int.reduceNeg, Int.reduceMul, fp_gu_c, fp_gu_s, fp_lose_o, fp_scut_o, fp_tk_o, fp_lrem_o])))
      | (refine And.intro (by simp [fp_rg, fp_up, fp_cp] <;> omega) ?_; (conv => whnf); (try simp only [Int.reduceToNat, Int.toNat_natCast, fp_up_c, fp_up_s, fp_up_i, fp_cp_c, fp_g_s, Nat.reduceBEq, Int.reduceAdd, Int.reduceSub, Int.reduceNeg, Int.reduceMul, fp_gu_c, fp_gu_s, fp_lose_o, fp_scut_o, fp_tk_o, fp_lrem_o]))
      | fail)
  refine fp_eqQ hq ?_
  funext x y z
  rcases (show x = 0 ∨ x = 7 ∨ (x ≠ 7 ∧ x ≠ 0) by omega) with h | h | ⟨h, h'⟩
  · simp [fp_pop, h, fp_g]
  · subst h
    simp [fp_pop, fp_up, fp_g, fp_gu]
  · simp [fp_pop, h, h', fp_up, fp_g]
end
