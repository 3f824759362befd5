section
-- ===== PART A: goes FIRST, ahead of the names: the tables' words, and 'selects' of the private methods out of them =====
/-- a private method of a class that the tables say can be made, by its rows of tables_1 -/
def lw_okq (q : MethodName × Nat) : Prop := (q.1.cls ≠ "java/lang/invoke/MethodHandle" ∧ q.1.cls ≠ "java/lang/invoke/VarHandle") ∧ Cond.instantiable q.1.cls q.2 ∈ tables_1 ∧ Cond.privateMethod q.1 ∈ tables_1 ∧ Cond.instanceMethod q.1 ∈ tables_1
theorem lw_p0 : lw_okq (⟨"BroomFlood$Reader", "step", "(LBroomFlood$Letters;)V"⟩, 6) := ⟨⟨by decide +kernel, by decide +kernel⟩, List.mem_of_getElem? (i := 42) (by decide +kernel), List.mem_of_getElem? (i := 280) (by decide +kernel), List.mem_of_getElem? (i := 281) (by decide +kernel)⟩
theorem lw_p1 : lw_okq (⟨"BroomFlood$Reader", "stepOverNumber", "(LBroomFlood$Letters;)V"⟩, 6) := ⟨⟨by decide +kernel, by decide +kernel⟩, List.mem_of_getElem? (i := 42) (by decide +kernel), List.mem_of_getElem? (i := 291) (by decide +kernel), List.mem_of_getElem? (i := 292) (by decide +kernel)⟩
theorem lw_p2 : lw_okq (⟨"BroomFlood$Reader", "isOneTooMany", "(ILBroomFlood$Cellar;)Z"⟩, 6) := ⟨⟨by decide +kernel, by decide +kernel⟩, List.mem_of_getElem? (i := 42) (by decide +kernel), List.mem_of_getElem? (i := 383) (by decide +kernel), List.mem_of_getElem? (i := 384) (by decide +kernel)⟩
theorem lw_p3 : lw_okq (⟨"BroomFlood$Reader", "readItem", "(LBroomFlood$Letters;LBroomFlood$Cellar;I)Z"⟩, 6) := ⟨⟨by decide +kernel, by decide +kernel⟩, List.mem_of_getElem? (i := 42) (by decide +kernel), List.mem_of_getElem? (i := 390) (by decide +kernel), List.mem_of_getElem? (i := 391) (by decide +kernel)⟩
theorem lw_p4 : lw_okq (⟨"BroomFlood$Reader", "isWithin", "(I)Z"⟩, 6) := ⟨⟨by decide +kernel, by decide +kernel⟩, List.mem_of_getElem? (i := 42) (by decide +kernel), List.mem_of_getElem? (i := 394) (by decide +kernel), List.mem_of_getElem? (i := 395) (by decide +kernel)⟩
theorem lw_p5 : lw_okq (⟨"BroomFlood$Moment", "comes", "(I)V"⟩, 12) := ⟨⟨by decide +kernel, by decide +kernel⟩, List.mem_of_getElem? (i := 73) (by decide +kernel), List.mem_of_getElem? (i := 472) (by decide +kernel), List.mem_of_getElem? (i := 473) (by decide +kernel)⟩
theorem lw_p6 : lw_okq (⟨"BroomFlood$Moment", "firstFree", "()I"⟩, 12) := ⟨⟨by decide +kernel, by decide +kernel⟩, List.mem_of_getElem? (i := 73) (by decide +kernel), List.mem_of_getElem? (i := 493) (by decide +kernel), List.mem_of_getElem? (i := 494) (by decide +kernel)⟩
theorem lw_p7 : lw_okq (⟨"BroomFlood", "takeAway", "(I)I"⟩, 13) := ⟨⟨by decide +kernel, by decide +kernel⟩, List.mem_of_getElem? (i := 19) (by decide +kernel), List.mem_of_getElem? (i := 518) (by decide +kernel), List.mem_of_getElem? (i := 519) (by decide +kernel)⟩
theorem lw_p8 : lw_okq (⟨"BroomFlood", "lookAhead", "()V"⟩, 13) := ⟨⟨by decide +kernel, by decide +kernel⟩, List.mem_of_getElem? (i := 19) (by decide +kernel), List.mem_of_getElem? (i := 544) (by decide +kernel), List.mem_of_getElem? (i := 545) (by decide +kernel)⟩
theorem lw_p9 : lw_okq (⟨"BroomFlood", "fewest", "(IZI)I"⟩, 13) := ⟨⟨by decide +kernel, by decide +kernel⟩, List.mem_of_getElem? (i := 19) (by decide +kernel), List.mem_of_getElem? (i := 564) (by decide +kernel), List.mem_of_getElem? (i := 565) (by decide +kernel)⟩
theorem lw_p10 : lw_okq (⟨"BroomFlood", "helps", "(IZI)Z"⟩, 13) := ⟨⟨by decide +kernel, by decide +kernel⟩, List.mem_of_getElem? (i := 19) (by decide +kernel), List.mem_of_getElem? (i := 571) (by decide +kernel), List.mem_of_getElem? (i := 572) (by decide +kernel)⟩
theorem lw_p11 : lw_okq (⟨"BroomFlood", "staysAtMark", "(III)Z"⟩, 13) := ⟨⟨by decide +kernel, by decide +kernel⟩, List.mem_of_getElem? (i := 19) (by decide +kernel), List.mem_of_getElem? (i := 575) (by decide +kernel), List.mem_of_getElem? (i := 576) (by decide +kernel)⟩
theorem lw_p12 : lw_okq (⟨"BroomFlood", "isAsMeasured", "()Z"⟩, 13) := ⟨⟨by decide +kernel, by decide +kernel⟩, List.mem_of_getElem? (i := 19) (by decide +kernel), List.mem_of_getElem? (i := 645) (by decide +kernel), List.mem_of_getElem? (i := 646) (by decide +kernel)⟩
theorem lw_p13 : lw_okq (⟨"BroomFlood", "countWays", "(II)J"⟩, 13) := ⟨⟨by decide +kernel, by decide +kernel⟩, List.mem_of_getElem? (i := 19) (by decide +kernel), List.mem_of_getElem? (i := 662) (by decide +kernel), List.mem_of_getElem? (i := 663) (by decide +kernel)⟩
theorem lw_p14 : lw_okq (⟨"BroomFloodModel", "reads", "()Z"⟩, 20) := ⟨⟨by decide +kernel, by decide +kernel⟩, List.mem_of_getElem? (i := 719) (by decide +kernel), List.mem_of_getElem? (i := 725) (by decide +kernel), List.mem_of_getElem? (i := 726) (by decide +kernel)⟩
theorem lw_p15 : lw_okq (⟨"BroomFloodModel", "token", "()V"⟩, 20) := ⟨⟨by decide +kernel, by decide +kernel⟩, List.mem_of_getElem? (i := 719) (by decide +kernel), List.mem_of_getElem? (i := 729) (by decide +kernel), List.mem_of_getElem? (i := 730) (by decide +kernel)⟩
def lw_privs_1 : List (MethodName × Nat) := [(⟨"BroomFlood$Reader", "step", "(LBroomFlood$Letters;)V"⟩, 6), (⟨"BroomFlood$Reader", "stepOverNumber", "(LBroomFlood$Letters;)V"⟩, 6), (⟨"BroomFlood$Reader", "isOneTooMany", "(ILBroomFlood$Cellar;)Z"⟩, 6), (⟨"BroomFlood$Reader", "readItem", "(LBroomFlood$Letters;LBroomFlood$Cellar;I)Z"⟩, 6), (⟨"BroomFlood$Reader", "isWithin", "(I)Z"⟩, 6), (⟨"BroomFlood$Moment", "comes", "(I)V"⟩, 12), (⟨"BroomFlood$Moment", "firstFree", "()I"⟩, 12), (⟨"BroomFlood", "takeAway", "(I)I"⟩, 13), (⟨"BroomFlood", "lookAhead", "()V"⟩, 13), (⟨"BroomFlood", "fewest", "(IZI)I"⟩, 13), (⟨"BroomFlood", "helps", "(IZI)Z"⟩, 13), (⟨"BroomFlood", "staysAtMark", "(III)Z"⟩, 13), (⟨"BroomFlood", "isAsMeasured", "()Z"⟩, 13), (⟨"BroomFlood", "countWays", "(II)J"⟩, 13), (⟨"BroomFloodModel", "reads", "()Z"⟩, 20), (⟨"BroomFloodModel", "token", "()V"⟩, 20)]
theorem lw_r1 : ∀ q ∈ lw_privs_1, lw_okq q := List.forall_mem_cons.mpr ⟨lw_p0, List.forall_mem_cons.mpr ⟨lw_p1, List.forall_mem_cons.mpr ⟨lw_p2, List.forall_mem_cons.mpr ⟨lw_p3, List.forall_mem_cons.mpr ⟨lw_p4, List.forall_mem_cons.mpr ⟨lw_p5, List.forall_mem_cons.mpr ⟨lw_p6, List.forall_mem_cons.mpr ⟨lw_p7, List.forall_mem_cons.mpr ⟨lw_p8, List.forall_mem_cons.mpr ⟨lw_p9, List.forall_mem_cons.mpr ⟨lw_p10, List.forall_mem_cons.mpr ⟨lw_p11, List.forall_mem_cons.mpr ⟨lw_p12, List.forall_mem_cons.mpr ⟨lw_p13, List.forall_mem_cons.mpr ⟨lw_p14, List.forall_mem_cons.mpr ⟨lw_p15, fun _ h => absurd h List.not_mem_nil⟩⟩⟩⟩⟩⟩⟩⟩⟩⟩⟩⟩⟩⟩⟩⟩
theorem lw_p16 : lw_okq (⟨"BroomFloodModel", "letterAt", "(I)I"⟩, 20) := ⟨⟨by decide +kernel, by decide +kernel⟩, List.mem_of_getElem? (i := 719) (by decide +kernel), List.mem_of_getElem? (i := 733) (by decide +kernel), List.mem_of_getElem? (i := 734) (by decide +kernel)⟩
theorem lw_p17 : lw_okq (⟨"BroomFloodModel", "readsItem", "()Z"⟩, 20) := ⟨⟨by decide +kernel, by decide +kernel⟩, List.mem_of_getElem? (i := 719) (by decide +kernel), List.mem_of_getElem? (i := 746) (by decide +kernel), List.mem_of_getElem? (i := 747) (by decide +kernel)⟩
theorem lw_p18 : lw_okq (⟨"BroomFloodModel", "number", "(III)Z"⟩, 20) := ⟨⟨by decide +kernel, by decide +kernel⟩, List.mem_of_getElem? (i := 719) (by decide +kernel), List.mem_of_getElem? (i := 750) (by decide +kernel), List.mem_of_getElem? (i := 751) (by decide +kernel)⟩
theorem lw_p19 : lw_okq (⟨"BroomFloodModel", "tells", "()V"⟩, 20) := ⟨⟨by decide +kernel, by decide +kernel⟩, List.mem_of_getElem? (i := 719) (by decide +kernel), List.mem_of_getElem? (i := 754) (by decide +kernel), List.mem_of_getElem? (i := 755) (by decide +kernel)⟩
theorem lw_p20 : lw_okq (⟨"BroomFloodModel", "begins", "()V"⟩, 20) := ⟨⟨by decide +kernel, by decide +kernel⟩, List.mem_of_getElem? (i := 719) (by decide +kernel), List.mem_of_getElem? (i := 758) (by decide +kernel), List.mem_of_getElem? (i := 759) (by decide +kernel)⟩
theorem lw_p21 : lw_okq (⟨"BroomFloodModel", "high", "()I"⟩, 20) := ⟨⟨by decide +kernel, by decide +kernel⟩, List.mem_of_getElem? (i := 719) (by decide +kernel), List.mem_of_getElem? (i := 762) (by decide +kernel), List.mem_of_getElem? (i := 763) (by decide +kernel)⟩
theorem lw_p22 : lw_okq (⟨"BroomFloodModel", "there", "()I"⟩, 20) := ⟨⟨by decide +kernel, by decide +kernel⟩, List.mem_of_getElem? (i := 719) (by decide +kernel), List.mem_of_getElem? (i := 850) (by decide +kernel), List.mem_of_getElem? (i := 851) (by decide +kernel)⟩
theorem lw_p23 : lw_okq (⟨"BroomFloodModel", "keeps", "()V"⟩, 20) := ⟨⟨by decide +kernel, by decide +kernel⟩, List.mem_of_getElem? (i := 719) (by decide +kernel), List.mem_of_getElem? (i := 858) (by decide +kernel), List.mem_of_getElem? (i := 859) (by decide +kernel)⟩
theorem lw_p24 : lw_okq (⟨"BroomFloodModel", "asTold", "()V"⟩, 20) := ⟨⟨by decide +kernel, by decide +kernel⟩, List.mem_of_getElem? (i := 719) (by decide +kernel), List.mem_of_getElem? (i := 862) (by decide +kernel), List.mem_of_getElem? (i := 863) (by decide +kernel)⟩
theorem lw_p25 : lw_okq (⟨"BroomFloodModel", "goes", "()I"⟩, 20) := ⟨⟨by decide +kernel, by decide +kernel⟩, List.mem_of_getElem? (i := 719) (by decide +kernel), List.mem_of_getElem? (i := 866) (by decide +kernel), List.mem_of_getElem? (i := 867) (by decide +kernel)⟩
theorem lw_p26 : lw_okq (⟨"BroomFloodModel", "carries", "(I)I"⟩, 20) := ⟨⟨by decide +kernel, by decide +kernel⟩, List.mem_of_getElem? (i := 719) (by decide +kernel), List.mem_of_getElem? (i := 870) (by decide +kernel), List.mem_of_getElem? (i := 871) (by decide +kernel)⟩
theorem lw_p27 : lw_okq (⟨"BroomFloodModel", "isThere", "(I)Z"⟩, 20) := ⟨⟨by decide +kernel, by decide +kernel⟩, List.mem_of_getElem? (i := 719) (by decide +kernel), List.mem_of_getElem? (i := 879) (by decide +kernel), List.mem_of_getElem? (i := 880) (by decide +kernel)⟩
theorem lw_p28 : lw_okq (⟨"BroomFloodModel", "canSplit", "(I)Z"⟩, 20) := ⟨⟨by decide +kernel, by decide +kernel⟩, List.mem_of_getElem? (i := 719) (by decide +kernel), List.mem_of_getElem? (i := 883) (by decide +kernel), List.mem_of_getElem? (i := 884) (by decide +kernel)⟩
theorem lw_p29 : lw_okq (⟨"BroomFloodModel", "free", "()I"⟩, 20) := ⟨⟨by decide +kernel, by decide +kernel⟩, List.mem_of_getElem? (i := 719) (by decide +kernel), List.mem_of_getElem? (i := 887) (by decide +kernel), List.mem_of_getElem? (i := 888) (by decide +kernel)⟩
theorem lw_p30 : lw_okq (⟨"BroomFloodModel", "splitsNow", "(I)I"⟩, 20) := ⟨⟨by decide +kernel, by decide +kernel⟩, List.mem_of_getElem? (i := 719) (by decide +kernel), List.mem_of_getElem? (i := 891) (by decide +kernel), List.mem_of_getElem? (i := 892) (by decide +kernel)⟩
theorem lw_p31 : lw_okq (⟨"BroomFloodModel", "holds", "()V"⟩, 20) := ⟨⟨by decide +kernel, by decide +kernel⟩, List.mem_of_getElem? (i := 719) (by decide +kernel), List.mem_of_getElem? (i := 922) (by decide +kernel), List.mem_of_getElem? (i := 923) (by decide +kernel)⟩
def lw_privs_2 : List (MethodName × Nat) := [(⟨"BroomFloodModel", "letterAt", "(I)I"⟩, 20), (⟨"BroomFloodModel", "readsItem", "()Z"⟩, 20), (⟨"BroomFloodModel", "number", "(III)Z"⟩, 20), (⟨"BroomFloodModel", "tells", "()V"⟩, 20), (⟨"BroomFloodModel", "begins", "()V"⟩, 20), (⟨"BroomFloodModel", "high", "()I"⟩, 20), (⟨"BroomFloodModel", "there", "()I"⟩, 20), (⟨"BroomFloodModel", "keeps", "()V"⟩, 20), (⟨"BroomFloodModel", "asTold", "()V"⟩, 20), (⟨"BroomFloodModel", "goes", "()I"⟩, 20), (⟨"BroomFloodModel", "carries", "(I)I"⟩, 20), (⟨"BroomFloodModel", "isThere", "(I)Z"⟩, 20), (⟨"BroomFloodModel", "canSplit", "(I)Z"⟩, 20), (⟨"BroomFloodModel", "free", "()I"⟩, 20), (⟨"BroomFloodModel", "splitsNow", "(I)I"⟩, 20), (⟨"BroomFloodModel", "holds", "()V"⟩, 20)]
theorem lw_r2 : ∀ q ∈ lw_privs_2, lw_okq q := List.forall_mem_cons.mpr ⟨lw_p16, List.forall_mem_cons.mpr ⟨lw_p17, List.forall_mem_cons.mpr ⟨lw_p18, List.forall_mem_cons.mpr ⟨lw_p19, List.forall_mem_cons.mpr ⟨lw_p20, List.forall_mem_cons.mpr ⟨lw_p21, List.forall_mem_cons.mpr ⟨lw_p22, List.forall_mem_cons.mpr ⟨lw_p23, List.forall_mem_cons.mpr ⟨lw_p24, List.forall_mem_cons.mpr ⟨lw_p25, List.forall_mem_cons.mpr ⟨lw_p26, List.forall_mem_cons.mpr ⟨lw_p27, List.forall_mem_cons.mpr ⟨lw_p28, List.forall_mem_cons.mpr ⟨lw_p29, List.forall_mem_cons.mpr ⟨lw_p30, List.forall_mem_cons.mpr ⟨lw_p31, fun _ h => absurd h List.not_mem_nil⟩⟩⟩⟩⟩⟩⟩⟩⟩⟩⟩⟩⟩⟩⟩⟩
theorem lw_p32 : lw_okq (⟨"BroomFloodModel", "lets", "()V"⟩, 20) := ⟨⟨by decide +kernel, by decide +kernel⟩, List.mem_of_getElem? (i := 719) (by decide +kernel), List.mem_of_getElem? (i := 926) (by decide +kernel), List.mem_of_getElem? (i := 927) (by decide +kernel)⟩
theorem lw_p33 : lw_okq (⟨"BroomFloodModel", "highest", "(I)I"⟩, 20) := ⟨⟨by decide +kernel, by decide +kernel⟩, List.mem_of_getElem? (i := 719) (by decide +kernel), List.mem_of_getElem? (i := 938) (by decide +kernel), List.mem_of_getElem? (i := 939) (by decide +kernel)⟩
theorem lw_p34 : lw_okq (⟨"BroomFloodModel", "fewest", "(IZ)I"⟩, 20) := ⟨⟨by decide +kernel, by decide +kernel⟩, List.mem_of_getElem? (i := 719) (by decide +kernel), List.mem_of_getElem? (i := 946) (by decide +kernel), List.mem_of_getElem? (i := 947) (by decide +kernel)⟩
theorem lw_p35 : lw_okq (⟨"BroomFloodModel", "isSo", "()Z"⟩, 20) := ⟨⟨by decide +kernel, by decide +kernel⟩, List.mem_of_getElem? (i := 719) (by decide +kernel), List.mem_of_getElem? (i := 994) (by decide +kernel), List.mem_of_getElem? (i := 995) (by decide +kernel)⟩
def lw_privs_3 : List (MethodName × Nat) := [(⟨"BroomFloodModel", "lets", "()V"⟩, 20), (⟨"BroomFloodModel", "highest", "(I)I"⟩, 20), (⟨"BroomFloodModel", "fewest", "(IZ)I"⟩, 20), (⟨"BroomFloodModel", "isSo", "()Z"⟩, 20)]
theorem lw_r3 : ∀ q ∈ lw_privs_3, lw_okq q := List.forall_mem_cons.mpr ⟨lw_p32, List.forall_mem_cons.mpr ⟨lw_p33, List.forall_mem_cons.mpr ⟨lw_p34, List.forall_mem_cons.mpr ⟨lw_p35, fun _ h => absurd h List.not_mem_nil⟩⟩⟩⟩
def lw_privs : List (MethodName × Nat) := lw_privs_1 ++ (lw_privs_2 ++ (lw_privs_3))
def lw_tbl : List Cond := k2_sels lw_privs ++ tables_1
theorem lw_privs_ok : ∀ q ∈ lw_privs, lw_okq q := by
  show ∀ q ∈ lw_privs_1 ++ (lw_privs_2 ++ (lw_privs_3)), lw_okq q
  exact List.forall_mem_append.mpr ⟨lw_r1, List.forall_mem_append.mpr ⟨lw_r2, lw_r3⟩⟩
end
section
def RX0 : String := "BroomFlood$Cellar"
def TX0 : u_T := fun k => match k with
  | 0 => ("BroomFlood$Cellar", "setting", "[I", true)
  | 1 => ("BroomFlood$Cellar", "start", "LBroomFlood$Moment;", true)
  | _ => ("BroomFlood$Cellar", "brooms", "I", false)
def tyX0 : Nat → FieldType := fun k => match k with
  | 0 => .array .int
  | 1 => .object "BroomFlood$Moment"
  | _ => .int
abbrev wsX00 : List Cond := u_ws RX0 TX0 3
theorem nmX0 : ∀ a, a < 3 → ∀ b, b < 3 → a ≠ b → (TX0 a).2.1 ≠ (TX0 b).2.1 := by decide +kernel
theorem tyX0_ok : ∀ k, k < 3 → parseFieldDescriptor (TX0 k).2.2.1 = some (tyX0 k) := by decide +kernel
abbrev cX0_init : ByteArray := prog_2_method_1_code
def yX0_init : MethodName := ⟨RX0, "<init>", "()V"⟩
abbrev cX0_tellNothing : ByteArray := prog_2_method_2_code
def yX0_tellNothing : MethodName := ⟨RX0, "tellNothing", "()V"⟩
abbrev cX0_copyFrom : ByteArray := prog_2_method_3_code
def yX0_copyFrom : MethodName := ⟨RX0, "copyFrom", "(LBroomFlood$Cellar;)V"⟩
abbrev cX0_tellSetting : ByteArray := prog_2_method_4_code
def yX0_tellSetting : MethodName := ⟨RX0, "tellSetting", "(II)V"⟩
abbrev cX0_tellBroom : ByteArray := prog_2_method_5_code
def yX0_tellBroom : MethodName := ⟨RX0, "tellBroom", "(III)V"⟩
abbrev cX0_begin : ByteArray := prog_2_method_6_code
def yX0_begin : MethodName := ⟨RX0, "begin", "()V"⟩
abbrev cX0_heightOf : ByteArray := prog_2_method_7_code
def yX0_heightOf : MethodName := ⟨RX0, "heightOf", "(I)I"⟩
abbrev cX0_isAboveMark : ByteArray := prog_2_method_8_code
def yX0_isAboveMark : MethodName := ⟨RX0, "isAboveMark", "(I)Z"⟩
abbrev cX0_stairWidth : ByteArray := prog_2_method_9_code
def yX0_stairWidth : MethodName := ⟨RX0, "stairWidth", "()I"⟩
abbrev cX0_drainCups : ByteArray := prog_2_method_10_code
def yX0_drainCups : MethodName := ⟨RX0, "drainCups", "()I"⟩
def RX1 : String := "BroomFlood$Fraction"
def TX1 : u_T := fun k => match k with
  | 0 => ("BroomFlood$Fraction", "upper", "J", false)
  | _ => ("BroomFlood$Fraction", "lower", "J", false)
def tyX1 : Nat → FieldType := fun k => match k with
  | 0 => .long
  | _ => .long
abbrev wsX10 : List Cond := u_ws RX1 TX1 2
theorem nmX1 : ∀ a, a < 2 → ∀ b, b < 2 → a ≠ b → (TX1 a).2.1 ≠ (TX1 b).2.1 := by decide +kernel
theorem tyX1_ok : ∀ k, k < 2 → parseFieldDescriptor (TX1 k).2.2.1 = some (tyX1 k) := by decide +kernel
abbrev cX1_init : ByteArray := prog_3_method_1_code
def yX1_init : MethodName := ⟨RX1, "<init>", "()V"⟩
abbrev cX1_become : ByteArray := prog_3_method_2_code
def yX1_become : MethodName := ⟨RX1, "become", "(JJ)V"⟩
abbrev cX1_plus : ByteArray := prog_3_method_3_code
def yX1_plus : MethodName := ⟨RX1, "plus", "(JJ)V"⟩
abbrev cX1_part : ByteArray := prog_3_method_4_code
def yX1_part : MethodName := ⟨RX1, "part", "(I)J"⟩
abbrev cX1_commonDivisor : ByteArray := prog_3_method_5_code
def yX1_commonDivisor : MethodName := ⟨RX1, "commonDivisor", "(JJ)J"⟩
def RX2 : String := "BroomFlood$Kinds"
def TX2 : u_T := fun k => match k with
  | _ => ("BroomFlood$Kinds", "asked", "J", false)
def tyX2 : Nat → FieldType := fun k => match k with
  | _ => .long
abbrev wsX20 : List Cond := u_ws RX2 TX2 1
theorem nmX2 : ∀ a, a < 1 → ∀ b, b < 1 → a ≠ b → (TX2 a).2.1 ≠ (TX2 b).2.1 := by decide +kernel
theorem tyX2_ok : ∀ k, k < 1 → parseFieldDescriptor (TX2 k).2.2.1 = some (tyX2 k) := by decide +kernel
abbrev cX2_init : ByteArray := prog_4_method_1_code
def yX2_init : MethodName := ⟨RX2, "<init>", "()V"⟩
abbrev cX2_asBroom : ByteArray := prog_4_method_2_code
def yX2_asBroom : MethodName := ⟨RX2, "asBroom", "(I)I"⟩
abbrev cX2_asWet : ByteArray := prog_4_method_3_code
def yX2_asWet : MethodName := ⟨RX2, "asWet", "(II)I"⟩
abbrev cX2_asHalf : ByteArray := prog_4_method_4_code
def yX2_asHalf : MethodName := ⟨RX2, "asHalf", "(II)I"⟩
abbrev cX2_asBored : ByteArray := prog_4_method_5_code
def yX2_asBored : MethodName := ⟨RX2, "asBored", "(II)I"⟩
abbrev cX2_asBurning : ByteArray := prog_4_method_6_code
def yX2_asBurning : MethodName := ⟨RX2, "asBurning", "(III)I"⟩
abbrev cX2_asTeaching : ByteArray := prog_4_method_7_code
def yX2_asTeaching : MethodName := ⟨RX2, "asTeaching", "(II)I"⟩
def RX3 : String := "BroomFlood$Letters"
def TX3 : u_T := fun k => match k with
  | 0 => ("BroomFlood$Letters", "letter", "[I", true)
  | _ => ("BroomFlood$Letters", "length", "I", false)
def tyX3 : Nat → FieldType := fun k => match k with
  | 0 => .array .int
  | _ => .int
abbrev wsX30 : List Cond := u_ws RX3 TX3 2
theorem nmX3 : ∀ a, a < 2 → ∀ b, b < 2 → a ≠ b → (TX3 a).2.1 ≠ (TX3 b).2.1 := by decide +kernel
theorem tyX3_ok : ∀ k, k < 2 → parseFieldDescriptor (TX3 k).2.2.1 = some (tyX3 k) := by decide +kernel
abbrev cX3_init : ByteArray := prog_5_method_1_code
def yX3_init : MethodName := ⟨RX3, "<init>", "()V"⟩
abbrev cX3_add : ByteArray := prog_5_method_2_code
def yX3_add : MethodName := ⟨RX3, "add", "(I)Z"⟩
abbrev cX3_at : ByteArray := prog_5_method_3_code
def yX3_at : MethodName := ⟨RX3, "at", "(I)I"⟩
def RX4 : String := "BroomFlood$Measures"
def TX4 : u_T := fun k => match k with
  | 0 => ("BroomFlood$Measures", "atMinute", "[I", true)
  | 1 => ("BroomFlood$Measures", "cups", "[I", true)
  | _ => ("BroomFlood$Measures", "known", "I", false)
def tyX4 : Nat → FieldType := fun k => match k with
  | 0 => .array .int
  | 1 => .array .int
  | _ => .int
abbrev wsX40 : List Cond := u_ws RX4 TX4 3
theorem nmX4 : ∀ a, a < 3 → ∀ b, b < 3 → a ≠ b → (TX4 a).2.1 ≠ (TX4 b).2.1 := by decide +kernel
theorem tyX4_ok : ∀ k, k < 3 → parseFieldDescriptor (TX4 k).2.2.1 = some (tyX4 k) := by decide +kernel
abbrev cX4_init : ByteArray := prog_6_method_1_code
def yX4_init : MethodName := ⟨RX4, "<init>", "()V"⟩
abbrev cX4_add : ByteArray := prog_6_method_2_code
def yX4_add : MethodName := ⟨RX4, "add", "(II)Z"⟩
abbrev cX4_allowWater : ByteArray := prog_6_method_3_code
def yX4_allowWater : MethodName := ⟨RX4, "allowWater", "(II)Z"⟩
def RX5 : String := "BroomFlood$Moment"
def TX5 : u_T := fun k => match k with
  | 0 => ("BroomFlood$Moment", "minutes", "I", false)
  | 1 => ("BroomFlood$Moment", "water", "I", false)
  | 2 => ("BroomFlood$Moment", "peak", "I", false)
  | 3 => ("BroomFlood$Moment", "size", "[I", true)
  | 4 => ("BroomFlood$Moment", "pace", "[I", true)
  | 5 => ("BroomFlood$Moment", "due", "[I", true)
  | 6 => ("BroomFlood$Moment", "out", "I", false)
  | 7 => ("BroomFlood$Moment", "bored", "I", false)
  | 8 => ("BroomFlood$Moment", "wet", "I", false)
  | 9 => ("BroomFlood$Moment", "there", "I", false)
  | 10 => ("BroomFlood$Moment", "came", "I", false)
  | _ => ("BroomFlood$Moment", "ranOff", "I", false)
def tyX5 : Nat → FieldType := fun k => match k with
  | 0 => .int
  | 1 => .int
  | 2 => .int
  | 3 => .array .int
  | 4 => .array .int
  | 5 => .array .int
  | 6 => .int
  | 7 => .int
  | 8 => .int
  | 9 => .int
  | 10 => .int
  | _ => .int
abbrev wsX50 : List Cond := u_ws RX5 TX5 12
theorem nmX5 : ∀ a, a < 12 → ∀ b, b < 12 → a ≠ b → (TX5 a).2.1 ≠ (TX5 b).2.1 := by decide +kernel
theorem tyX5_ok : ∀ k, k < 12 → parseFieldDescriptor (TX5 k).2.2.1 = some (tyX5 k) := by decide +kernel
abbrev cX5_init : ByteArray := prog_7_method_1_code
def yX5_init : MethodName := ⟨RX5, "<init>", "()V"⟩
abbrev cX5_copyFrom : ByteArray := prog_7_method_2_code
def yX5_copyFrom : MethodName := ⟨RX5, "copyFrom", "(LBroomFlood$Moment;)V"⟩
abbrev cX5_empty : ByteArray := prog_7_method_3_code
def yX5_empty : MethodName := ⟨RX5, "empty", "()V"⟩
abbrev cX5_place : ByteArray := prog_7_method_4_code
def yX5_place : MethodName := ⟨RX5, "place", "(IIII)V"⟩
abbrev cX5_isThere : ByteArray := prog_7_method_5_code
def yX5_isThere : MethodName := ⟨RX5, "isThere", "(I)Z"⟩
abbrev cX5_loadOf : ByteArray := prog_7_method_6_code
def yX5_loadOf : MethodName := ⟨RX5, "loadOf", "(I)I"⟩
abbrev cX5_pass : ByteArray := prog_7_method_7_code
def yX5_pass : MethodName := ⟨RX5, "pass", "(II)V"⟩
abbrev cX5_comes : ByteArray := prog_7_method_8_code
def yX5_comes : MethodName := ⟨RX5, "comes", "(I)V"⟩
abbrev cX5_firstFree : ByteArray := prog_7_method_9_code
def yX5_firstFree : MethodName := ⟨RX5, "firstFree", "()I"⟩
abbrev cX5_canSplit : ByteArray := prog_7_method_10_code
def yX5_canSplit : MethodName := ⟨RX5, "canSplit", "(I)Z"⟩
abbrev cX5_split : ByteArray := prog_7_method_11_code
def yX5_split : MethodName := ⟨RX5, "split", "(I)I"⟩
abbrev cX5_alike : ByteArray := prog_7_method_12_code
def yX5_alike : MethodName := ⟨RX5, "alike", "(III)I"⟩
abbrev cX5_comings : ByteArray := prog_7_method_13_code
def yX5_comings : MethodName := ⟨RX5, "comings", "(II)I"⟩
def RX6 : String := "BroomFlood$Past"
def TX6 : u_T := fun k => match k with
  | 0 => ("BroomFlood$Past", "ring", "[LBroomFlood$Moment;", true)
  | 1 => ("BroomFlood$Past", "known", "I", false)
  | _ => ("BroomFlood$Past", "latest", "I", false)
def tyX6 : Nat → FieldType := fun k => match k with
  | 0 => .array (.object "BroomFlood$Moment")
  | 1 => .int
  | _ => .int
abbrev wsX60 : List Cond := u_ws RX6 TX6 3
theorem nmX6 : ∀ a, a < 3 → ∀ b, b < 3 → a ≠ b → (TX6 a).2.1 ≠ (TX6 b).2.1 := by decide +kernel
theorem tyX6_ok : ∀ k, k < 3 → parseFieldDescriptor (TX6 k).2.2.1 = some (tyX6 k) := by decide +kernel
abbrev cX6_init : ByteArray := prog_8_method_1_code
def yX6_init : MethodName := ⟨RX6, "<init>", "()V"⟩
abbrev cX6_remember : ByteArray := prog_8_method_2_code
def yX6_remember : MethodName := ⟨RX6, "remember", "(LBroomFlood$Moment;)V"⟩
abbrev cX6_bringBack : ByteArray := prog_8_method_3_code
def yX6_bringBack : MethodName := ⟨RX6, "bringBack", "(LBroomFlood$Moment;)V"⟩
def RX7 : String := "BroomFlood$Reader"
def TX7 : u_T := fun k => match k with
  | 0 => ("BroomFlood$Reader", "numbers", "[I", true)
  | 1 => ("BroomFlood$Reader", "next", "I", false)
  | 2 => ("BroomFlood$Reader", "place", "I", false)
  | 3 => ("BroomFlood$Reader", "token", "I", false)
  | 4 => ("BroomFlood$Reader", "number", "I", false)
  | _ => ("BroomFlood$Reader", "seen", "I", false)
def tyX7 : Nat → FieldType := fun k => match k with
  | 0 => .array .int
  | 1 => .int
  | 2 => .int
  | 3 => .int
  | 4 => .int
  | _ => .int
abbrev wsX70 : List Cond := u_ws RX7 TX7 6
theorem nmX7 : ∀ a, a < 6 → ∀ b, b < 6 → a ≠ b → (TX7 a).2.1 ≠ (TX7 b).2.1 := by decide +kernel
theorem tyX7_ok : ∀ k, k < 6 → parseFieldDescriptor (TX7 k).2.2.1 = some (tyX7 k) := by decide +kernel
abbrev cX7_init : ByteArray := prog_9_method_1_code
def yX7_init : MethodName := ⟨RX7, "<init>", "()V"⟩
abbrev cX7_read : ByteArray := prog_9_method_2_code
def yX7_read : MethodName := ⟨RX7, "read", "(LBroomFlood$Letters;LBroomFlood$Cellar;)I"⟩
abbrev cX7_isOneTooMany : ByteArray := prog_9_method_3_code
def yX7_isOneTooMany : MethodName := ⟨RX7, "isOneTooMany", "(ILBroomFlood$Cellar;)Z"⟩
abbrev cX7_readItem : ByteArray := prog_9_method_4_code
def yX7_readItem : MethodName := ⟨RX7, "readItem", "(LBroomFlood$Letters;LBroomFlood$Cellar;I)Z"⟩
abbrev cX7_isWithin : ByteArray := prog_9_method_5_code
def yX7_isWithin : MethodName := ⟨RX7, "isWithin", "(I)Z"⟩
abbrev cX7_step : ByteArray := prog_9_method_6_code
def yX7_step : MethodName := ⟨RX7, "step", "(LBroomFlood$Letters;)V"⟩
abbrev cX7_stepOverNumber : ByteArray := prog_9_method_7_code
def yX7_stepOverNumber : MethodName := ⟨RX7, "stepOverNumber", "(LBroomFlood$Letters;)V"⟩
abbrev cX7_isDigit : ByteArray := prog_9_method_8_code
def yX7_isDigit : MethodName := ⟨RX7, "isDigit", "(I)Z"⟩
def RX8 : String := "BroomFlood"
def TX8 : u_T := fun k => match k with
  | 0 => ("BroomFlood", "letters", "LBroomFlood$Letters;", true)
  | 1 => ("BroomFlood", "reader", "LBroomFlood$Reader;", true)
  | 2 => ("BroomFlood", "told", "LBroomFlood$Cellar;", true)
  | 3 => ("BroomFlood", "draft", "LBroomFlood$Cellar;", true)
  | 4 => ("BroomFlood", "present", "LBroomFlood$Moment;", true)
  | 5 => ("BroomFlood", "ahead", "LBroomFlood$Moment;", true)
  | 6 => ("BroomFlood", "past", "LBroomFlood$Past;", true)
  | 7 => ("BroomFlood", "images", "[LBroomFlood$Moment;", true)
  | 8 => ("BroomFlood", "kept", "[Z", true)
  | 9 => ("BroomFlood", "measures", "LBroomFlood$Measures;", true)
  | 10 => ("BroomFlood", "fraction", "LBroomFlood$Fraction;", true)
  | 11 => ("BroomFlood", "ways", "[J", true)
  | _ => ("BroomFlood", "kinds", "LBroomFlood$Kinds;", true)
def tyX8 : Nat → FieldType := fun k => match k with
  | 0 => .object "BroomFlood$Letters"
  | 1 => .object "BroomFlood$Reader"
  | 2 => .object "BroomFlood$Cellar"
  | 3 => .object "BroomFlood$Cellar"
  | 4 => .object "BroomFlood$Moment"
  | 5 => .object "BroomFlood$Moment"
  | 6 => .object "BroomFlood$Past"
  | 7 => .array (.object "BroomFlood$Moment")
  | 8 => .array .boolean
  | 9 => .object "BroomFlood$Measures"
  | 10 => .object "BroomFlood$Fraction"
  | 11 => .array .long
  | _ => .object "BroomFlood$Kinds"
abbrev wsX80 : List Cond := u_ws RX8 TX8 13
theorem nmX8 : ∀ a, a < 13 → ∀ b, b < 13 → a ≠ b → (TX8 a).2.1 ≠ (TX8 b).2.1 := by decide +kernel
theorem tyX8_ok : ∀ k, k < 13 → parseFieldDescriptor (TX8 k).2.2.1 = some (tyX8 k) := by decide +kernel
abbrev cX8_init : ByteArray := prog_1_method_1_code
def yX8_init : MethodName := ⟨RX8, "<init>", "()V"⟩
abbrev cX8_type : ByteArray := prog_1_method_2_code
def yX8_type : MethodName := ⟨RX8, "type", "(I)I"⟩
abbrev cX8_clear : ByteArray := prog_1_method_3_code
def yX8_clear : MethodName := ⟨RX8, "clear", "()I"⟩
abbrev cX8_cellar : ByteArray := prog_1_method_4_code
def yX8_cellar : MethodName := ⟨RX8, "cellar", "()I"⟩
abbrev cX8_broom : ByteArray := prog_1_method_5_code
def yX8_broom : MethodName := ⟨RX8, "broom", "(II)I"⟩
abbrev cX8_now : ByteArray := prog_1_method_6_code
def yX8_now : MethodName := ⟨RX8, "now", "(I)I"⟩
abbrev cX8_minute : ByteArray := prog_1_method_7_code
def yX8_minute : MethodName := ⟨RX8, "minute", "()I"⟩
abbrev cX8_splits : ByteArray := prog_1_method_8_code
def yX8_splits : MethodName := ⟨RX8, "splits", "(I)I"⟩
abbrev cX8_teaches : ByteArray := prog_1_method_9_code
def yX8_teaches : MethodName := ⟨RX8, "teaches", "(I)I"⟩
abbrev cX8_bores : ByteArray := prog_1_method_10_code
def yX8_bores : MethodName := ⟨RX8, "bores", "(I)I"⟩
abbrev cX8_burns : ByteArray := prog_1_method_11_code
def yX8_burns : MethodName := ⟨RX8, "burns", "(I)I"⟩
abbrev cX8_halts : ByteArray := prog_1_method_12_code
def yX8_halts : MethodName := ⟨RX8, "halts", "(I)I"⟩
abbrev cX8_undo : ByteArray := prog_1_method_13_code
def yX8_undo : MethodName := ⟨RX8, "undo", "()I"⟩
abbrev cX8_takeAway : ByteArray := prog_1_method_14_code
def yX8_takeAway : MethodName := ⟨RX8, "takeAway", "(I)I"⟩
abbrev cX8_stands : ByteArray := prog_1_method_15_code
def yX8_stands : MethodName := ⟨RX8, "stands", "(I)I"⟩
abbrev cX8_above : ByteArray := prog_1_method_16_code
def yX8_above : MethodName := ⟨RX8, "above", "()I"⟩
abbrev cX8_most : ByteArray := prog_1_method_17_code
def yX8_most : MethodName := ⟨RX8, "most", "(I)I"⟩
abbrev cX8_lookAhead : ByteArray := prog_1_method_18_code
def yX8_lookAhead : MethodName := ⟨RX8, "lookAhead", "()V"⟩
abbrev cX8_teach : ByteArray := prog_1_method_19_code
def yX8_teach : MethodName := ⟨RX8, "teach", "(I)I"⟩
abbrev cX8_burn : ByteArray := prog_1_method_20_code
def yX8_burn : MethodName := ⟨RX8, "burn", "(I)I"⟩
abbrev cX8_stair : ByteArray := prog_1_method_21_code
def yX8_stair : MethodName := ⟨RX8, "stair", "(I)I"⟩
abbrev cX8_drain : ByteArray := prog_1_method_22_code
def yX8_drain : MethodName := ⟨RX8, "drain", "(I)I"⟩
abbrev cX8_isPlanned : ByteArray := prog_1_method_23_code
def yX8_isPlanned : MethodName := ⟨RX8, "isPlanned", "(I)Z"⟩
abbrev cX8_fewest : ByteArray := prog_1_method_24_code
def yX8_fewest : MethodName := ⟨RX8, "fewest", "(IZI)I"⟩
abbrev cX8_helps : ByteArray := prog_1_method_25_code
def yX8_helps : MethodName := ⟨RX8, "helps", "(IZI)Z"⟩
abbrev cX8_staysAtMark : ByteArray := prog_1_method_26_code
def yX8_staysAtMark : MethodName := ⟨RX8, "staysAtMark", "(III)Z"⟩
abbrev cX8_flow : ByteArray := prog_1_method_27_code
def yX8_flow : MethodName := ⟨RX8, "flow", "(I)J"⟩
abbrev cX8_splitOn : ByteArray := prog_1_method_28_code
def yX8_splitOn : MethodName := ⟨RX8, "splitOn", "(III)I"⟩
abbrev cX8_price : ByteArray := prog_1_method_29_code
def yX8_price : MethodName := ⟨RX8, "price", "(II)I"⟩
abbrev cX8_heard : ByteArray := prog_1_method_30_code
def yX8_heard : MethodName := ⟨RX8, "heard", "(I)I"⟩
abbrev cX8_measured : ByteArray := prog_1_method_31_code
def yX8_measured : MethodName := ⟨RX8, "measured", "(II)I"⟩
abbrev cX8_forget : ByteArray := prog_1_method_32_code
def yX8_forget : MethodName := ⟨RX8, "forget", "()I"⟩
abbrev cX8_splitFirst : ByteArray := prog_1_method_33_code
def yX8_splitFirst : MethodName := ⟨RX8, "splitFirst", "()I"⟩
abbrev cX8_isAsMeasured : ByteArray := prog_1_method_34_code
def yX8_isAsMeasured : MethodName := ⟨RX8, "isAsMeasured", "()Z"⟩
abbrev cX8_odds : ByteArray := prog_1_method_35_code
def yX8_odds : MethodName := ⟨RX8, "odds", "(IIIII)I"⟩
abbrev cX8_countWays : ByteArray := prog_1_method_36_code
def yX8_countWays : MethodName := ⟨RX8, "countWays", "(II)J"⟩
abbrev cX8_rate : ByteArray := prog_1_method_37_code
def yX8_rate : MethodName := ⟨RX8, "rate", "(II)I"⟩
abbrev cX8_keep : ByteArray := prog_1_method_38_code
def yX8_keep : MethodName := ⟨RX8, "keep", "(I)I"⟩
abbrev cX8_back : ByteArray := prog_1_method_39_code
def yX8_back : MethodName := ⟨RX8, "back", "(I)I"⟩
abbrev cX8_count : ByteArray := prog_1_method_40_code
def yX8_count : MethodName := ⟨RX8, "count", "(I)I"⟩
abbrev cX8_trace : ByteArray := prog_1_method_41_code
def yX8_trace : MethodName := ⟨RX8, "trace", "()J"⟩
abbrev cX8_bitOf : ByteArray := prog_1_method_42_code
def yX8_bitOf : MethodName := ⟨RX8, "bitOf", "(II)I"⟩
def RX9 : String := "BroomFloodModel"
def TX9 : u_T := fun k => match k with
  | 0 => ("BroomFloodModel", "trace", "J", false)
  | 1 => ("BroomFloodModel", "text", "[I", true)
  | 2 => ("BroomFloodModel", "typed", "I", false)
  | 3 => ("BroomFloodModel", "told", "[I", true)
  | 4 => ("BroomFloodModel", "draft", "[I", true)
  | 5 => ("BroomFloodModel", "s", "[I", true)
  | 6 => ("BroomFloodModel", "past", "[I", true)
  | 7 => ("BroomFloodModel", "known", "I", false)
  | 8 => ("BroomFloodModel", "images", "[I", true)
  | 9 => ("BroomFloodModel", "kept", "[Z", true)
  | 10 => ("BroomFloodModel", "measures", "[I", true)
  | 11 => ("BroomFloodModel", "measured", "I", false)
  | 12 => ("BroomFloodModel", "at", "I", false)
  | 13 => ("BroomFloodModel", "sort", "I", false)
  | 14 => ("BroomFloodModel", "start", "I", false)
  | 15 => ("BroomFloodModel", "value", "I", false)
  | 16 => ("BroomFloodModel", "wide", "I", false)
  | 17 => ("BroomFloodModel", "runs", "I", false)
  | 18 => ("BroomFloodModel", "ran", "I", false)
  | _ => ("BroomFloodModel", "held", "[I", true)
def tyX9 : Nat → FieldType := fun k => match k with
  | 0 => .long
  | 1 => .array .int
  | 2 => .int
  | 3 => .array .int
  | 4 => .array .int
  | 5 => .array .int
  | 6 => .array .int
  | 7 => .int
  | 8 => .array .int
  | 9 => .array .boolean
  | 10 => .array .int
  | 11 => .int
  | 12 => .int
  | 13 => .int
  | 14 => .int
  | 15 => .int
  | 16 => .int
  | 17 => .int
  | 18 => .int
  | _ => .array .int
abbrev wsX90 : List Cond := u_ws RX9 TX9 20
theorem nmX9 : ∀ a, a < 20 → ∀ b, b < 20 → a ≠ b → (TX9 a).2.1 ≠ (TX9 b).2.1 := by decide +kernel
theorem tyX9_ok : ∀ k, k < 20 → parseFieldDescriptor (TX9 k).2.2.1 = some (tyX9 k) := by decide +kernel
abbrev cX9_init : ByteArray := prog_11_method_1_code
def yX9_init : MethodName := ⟨RX9, "<init>", "()V"⟩
abbrev cX9_in : ByteArray := prog_11_method_3_code
def yX9_in : MethodName := ⟨RX9, "in", "(III)Z"⟩
abbrev cX9_isNumber : ByteArray := prog_11_method_4_code
def yX9_isNumber : MethodName := ⟨RX9, "isNumber", "(I)Z"⟩
abbrev cX9_isThere : ByteArray := prog_11_method_5_code
def yX9_isThere : MethodName := ⟨RX9, "isThere", "(I)Z"⟩
abbrev cX9_ones : ByteArray := prog_11_method_6_code
def yX9_ones : MethodName := ⟨RX9, "ones", "(I)I"⟩
abbrev cX9_type : ByteArray := prog_11_method_7_code
def yX9_type : MethodName := ⟨RX9, "type", "(I)I"⟩
abbrev cX9_clear : ByteArray := prog_11_method_8_code
def yX9_clear : MethodName := ⟨RX9, "clear", "()I"⟩
abbrev cX9_letterAt : ByteArray := prog_11_method_9_code
def yX9_letterAt : MethodName := ⟨RX9, "letterAt", "(I)I"⟩
abbrev cX9_isDigit : ByteArray := prog_11_method_10_code
def yX9_isDigit : MethodName := ⟨RX9, "isDigit", "(I)Z"⟩
abbrev cX9_itemOf : ByteArray := prog_11_method_11_code
def yX9_itemOf : MethodName := ⟨RX9, "itemOf", "(I)I"⟩
abbrev cX9_token : ByteArray := prog_11_method_12_code
def yX9_token : MethodName := ⟨RX9, "token", "()V"⟩
abbrev cX9_number : ByteArray := prog_11_method_13_code
def yX9_number : MethodName := ⟨RX9, "number", "(III)Z"⟩
abbrev cX9_readsItem : ByteArray := prog_11_method_14_code
def yX9_readsItem : MethodName := ⟨RX9, "readsItem", "()Z"⟩
abbrev cX9_reads : ByteArray := prog_11_method_15_code
def yX9_reads : MethodName := ⟨RX9, "reads", "()Z"⟩
abbrev cX9_high : ByteArray := prog_11_method_16_code
def yX9_high : MethodName := ⟨RX9, "high", "()I"⟩
abbrev cX9_begins : ByteArray := prog_11_method_17_code
def yX9_begins : MethodName := ⟨RX9, "begins", "()V"⟩
abbrev cX9_tells : ByteArray := prog_11_method_18_code
def yX9_tells : MethodName := ⟨RX9, "tells", "()V"⟩
abbrev cX9_cellar : ByteArray := prog_11_method_19_code
def yX9_cellar : MethodName := ⟨RX9, "cellar", "()I"⟩
abbrev cX9_broom : ByteArray := prog_11_method_20_code
def yX9_broom : MethodName := ⟨RX9, "broom", "(II)I"⟩
abbrev cX9_there : ByteArray := prog_11_method_21_code
def yX9_there : MethodName := ⟨RX9, "there", "()I"⟩
abbrev cX9_now : ByteArray := prog_11_method_22_code
def yX9_now : MethodName := ⟨RX9, "now", "(I)I"⟩
abbrev cX9_keeps : ByteArray := prog_11_method_23_code
def yX9_keeps : MethodName := ⟨RX9, "keeps", "()V"⟩
abbrev cX9_carries : ByteArray := prog_11_method_24_code
def yX9_carries : MethodName := ⟨RX9, "carries", "(I)I"⟩
abbrev cX9_goes : ByteArray := prog_11_method_25_code
def yX9_goes : MethodName := ⟨RX9, "goes", "()I"⟩
abbrev cX9_asTold : ByteArray := prog_11_method_26_code
def yX9_asTold : MethodName := ⟨RX9, "asTold", "()V"⟩
abbrev cX9_minute : ByteArray := prog_11_method_27_code
def yX9_minute : MethodName := ⟨RX9, "minute", "()I"⟩
abbrev cX9_free : ByteArray := prog_11_method_28_code
def yX9_free : MethodName := ⟨RX9, "free", "()I"⟩
abbrev cX9_splitsNow : ByteArray := prog_11_method_29_code
def yX9_splitsNow : MethodName := ⟨RX9, "splitsNow", "(I)I"⟩
abbrev cX9_canSplit : ByteArray := prog_11_method_30_code
def yX9_canSplit : MethodName := ⟨RX9, "canSplit", "(I)Z"⟩
abbrev cX9_splits : ByteArray := prog_11_method_31_code
def yX9_splits : MethodName := ⟨RX9, "splits", "(I)I"⟩
abbrev cX9_teaches : ByteArray := prog_11_method_32_code
def yX9_teaches : MethodName := ⟨RX9, "teaches", "(I)I"⟩
abbrev cX9_bores : ByteArray := prog_11_method_33_code
def yX9_bores : MethodName := ⟨RX9, "bores", "(I)I"⟩
abbrev cX9_burns : ByteArray := prog_11_method_34_code
def yX9_burns : MethodName := ⟨RX9, "burns", "(I)I"⟩
abbrev cX9_halts : ByteArray := prog_11_method_35_code
def yX9_halts : MethodName := ⟨RX9, "halts", "(I)I"⟩
abbrev cX9_undo : ByteArray := prog_11_method_36_code
def yX9_undo : MethodName := ⟨RX9, "undo", "()I"⟩
abbrev cX9_holds : ByteArray := prog_11_method_37_code
def yX9_holds : MethodName := ⟨RX9, "holds", "()V"⟩
abbrev cX9_lets : ByteArray := prog_11_method_38_code
def yX9_lets : MethodName := ⟨RX9, "lets", "()V"⟩
abbrev cX9_stands : ByteArray := prog_11_method_39_code
def yX9_stands : MethodName := ⟨RX9, "stands", "(I)I"⟩
abbrev cX9_above : ByteArray := prog_11_method_40_code
def yX9_above : MethodName := ⟨RX9, "above", "()I"⟩
abbrev cX9_highest : ByteArray := prog_11_method_41_code
def yX9_highest : MethodName := ⟨RX9, "highest", "(I)I"⟩
abbrev cX9_most : ByteArray := prog_11_method_42_code
def yX9_most : MethodName := ⟨RX9, "most", "(I)I"⟩
abbrev cX9_fewest : ByteArray := prog_11_method_43_code
def yX9_fewest : MethodName := ⟨RX9, "fewest", "(IZ)I"⟩
abbrev cX9_teach : ByteArray := prog_11_method_44_code
def yX9_teach : MethodName := ⟨RX9, "teach", "(I)I"⟩
abbrev cX9_burn : ByteArray := prog_11_method_45_code
def yX9_burn : MethodName := ⟨RX9, "burn", "(I)I"⟩
abbrev cX9_stair : ByteArray := prog_11_method_46_code
def yX9_stair : MethodName := ⟨RX9, "stair", "(I)I"⟩
abbrev cX9_drain : ByteArray := prog_11_method_47_code
def yX9_drain : MethodName := ⟨RX9, "drain", "(I)I"⟩
abbrev cX9_common : ByteArray := prog_11_method_48_code
def yX9_common : MethodName := ⟨RX9, "common", "(JJ)J"⟩
abbrev cX9_flow : ByteArray := prog_11_method_49_code
def yX9_flow : MethodName := ⟨RX9, "flow", "(I)J"⟩
abbrev cX9_splitOn : ByteArray := prog_11_method_50_code
def yX9_splitOn : MethodName := ⟨RX9, "splitOn", "(III)I"⟩
abbrev cX9_price : ByteArray := prog_11_method_51_code
def yX9_price : MethodName := ⟨RX9, "price", "(II)I"⟩
abbrev cX9_heard : ByteArray := prog_11_method_52_code
def yX9_heard : MethodName := ⟨RX9, "heard", "(I)I"⟩
abbrev cX9_measured : ByteArray := prog_11_method_53_code
def yX9_measured : MethodName := ⟨RX9, "measured", "(II)I"⟩
abbrev cX9_forget : ByteArray := prog_11_method_54_code
def yX9_forget : MethodName := ⟨RX9, "forget", "()I"⟩
abbrev cX9_isSo : ByteArray := prog_11_method_55_code
def yX9_isSo : MethodName := ⟨RX9, "isSo", "()Z"⟩
abbrev cX9_splitFirst : ByteArray := prog_11_method_56_code
def yX9_splitFirst : MethodName := ⟨RX9, "splitFirst", "()I"⟩
abbrev cX9_odds : ByteArray := prog_11_method_57_code
def yX9_odds : MethodName := ⟨RX9, "odds", "(IIIII)I"⟩
abbrev cX9_rate : ByteArray := prog_11_method_58_code
def yX9_rate : MethodName := ⟨RX9, "rate", "(II)I"⟩
abbrev cX9_keep : ByteArray := prog_11_method_59_code
def yX9_keep : MethodName := ⟨RX9, "keep", "(I)I"⟩
abbrev cX9_back : ByteArray := prog_11_method_60_code
def yX9_back : MethodName := ⟨RX9, "back", "(I)I"⟩
abbrev cX9_count : ByteArray := prog_11_method_61_code
def yX9_count : MethodName := ⟨RX9, "count", "(I)I"⟩
abbrev cX9_trace : ByteArray := prog_11_method_62_code
def yX9_trace : MethodName := ⟨RX9, "trace", "()J"⟩
def RJ11 : String := "java/lang/Character"
def TJ11 : u_T := fun k => match k with
  | _ => ("", "", "", false)
def tyJ11 : Nat → FieldType := fun k => match k with
  | _ => .int
theorem nmJ11 : ∀ a, a < 0 → ∀ b, b < 0 → a ≠ b → (TJ11 a).2.1 ≠ (TJ11 b).2.1 := by decide +kernel
theorem tyJ11_ok : ∀ k, k < 0 → parseFieldDescriptor (TJ11 k).2.2.1 = some (tyJ11 k) := by decide +kernel
abbrev cJ11_isValidCodePoint_9a6ad : ByteArray := prog_12_method_11_code
def yJ11_isValidCodePoint_9a6ad : MethodName := ⟨RJ11, "isValidCodePoint", "(I)Z"⟩
abbrev cJ11_highSurrogate_5068e : ByteArray := prog_12_method_28_code
def yJ11_highSurrogate_5068e : MethodName := ⟨RJ11, "highSurrogate", "(I)C"⟩
abbrev cJ11_lowSurrogate_5068e : ByteArray := prog_12_method_29_code
def yJ11_lowSurrogate_5068e : MethodName := ⟨RJ11, "lowSurrogate", "(I)C"⟩
def RJ6 : String := "java/lang/Integer"
def TJ6 : u_T := fun k => match k with
  | _ => ("", "", "", false)
def tyJ6 : Nat → FieldType := fun k => match k with
  | _ => .int
theorem nmJ6 : ∀ a, a < 0 → ∀ b, b < 0 → a ≠ b → (TJ6 a).2.1 ≠ (TJ6 b).2.1 := by decide +kernel
theorem tyJ6_ok : ∀ k, k < 0 → parseFieldDescriptor (TJ6 k).2.2.1 = some (tyJ6 k) := by decide +kernel
abbrev cJ6_bitCount_0f7a4 : ByteArray := prog_13_method_49_code
def yJ6_bitCount_0f7a4 : MethodName := ⟨RJ6, "bitCount", "(I)I"⟩
def RJ9 : String := "java/lang/Math"
def TJ9 : u_T := fun k => match k with
  | _ => ("", "", "", false)
def tyJ9 : Nat → FieldType := fun k => match k with
  | _ => .int
theorem nmJ9 : ∀ a, a < 0 → ∀ b, b < 0 → a ≠ b → (TJ9 a).2.1 ≠ (TJ9 b).2.1 := by decide +kernel
theorem tyJ9_ok : ∀ k, k < 0 → parseFieldDescriptor (TJ9 k).2.2.1 = some (tyJ9 k) := by decide +kernel
abbrev cJ9_floorMod_7cf53 : ByteArray := prog_14_method_50_code
def yJ9_floorMod_7cf53 : MethodName := ⟨RJ9, "floorMod", "(II)I"⟩
abbrev cJ9_abs_067f4 : ByteArray := prog_14_method_61_code
def yJ9_abs_067f4 : MethodName := ⟨RJ9, "abs", "(J)J"⟩
abbrev cJ9_max_7cf53 : ByteArray := prog_14_method_65_code
def yJ9_max_7cf53 : MethodName := ⟨RJ9, "max", "(II)I"⟩
abbrev cJ9_min_7cf53 : ByteArray := prog_14_method_69_code
def yJ9_min_7cf53 : MethodName := ⟨RJ9, "min", "(II)I"⟩
def RJ0 : String := "java/lang/String"
def TJ0 : u_T := fun k => match k with
  | _ => ("", "", "", false)
def tyJ0 : Nat → FieldType := fun k => match k with
  | _ => .int
theorem nmJ0 : ∀ a, a < 0 → ∀ b, b < 0 → a ≠ b → (TJ0 a).2.1 ≠ (TJ0 b).2.1 := by decide +kernel
theorem tyJ0_ok : ∀ k, k < 0 → parseFieldDescriptor (TJ0 k).2.2.1 = some (tyJ0 k) := by decide +kernel
abbrev cJ0_length_8abf5 : ByteArray := prog_15_method_54_code
def yJ0_length_8abf5 : MethodName := ⟨RJ0, "length", "()I"⟩
abbrev cJ0_indexOf_0f7a4 : ByteArray := prog_15_method_79_code
def yJ0_indexOf_0f7a4 : MethodName := ⟨RJ0, "indexOf", "(I)I"⟩
abbrev cJ0_indexOf_7cf53 : ByteArray := prog_15_method_80_code
def yJ0_indexOf_7cf53 : MethodName := ⟨RJ0, "indexOf", "(II)I"⟩
abbrev cJ0_coder_7d493 : ByteArray := prog_15_method_152_code
def yJ0_coder_7d493 : MethodName := ⟨RJ0, "coder", "()B"⟩
abbrev cJ0_isLatin1_aae02 : ByteArray := prog_15_method_154_code
def yJ0_isLatin1_aae02 : MethodName := ⟨RJ0, "isLatin1", "()Z"⟩
abbrev cJ0_checkBoundsBeginEnd_23922 : ByteArray := prog_15_method_158_code
def yJ0_checkBoundsBeginEnd_23922 : MethodName := ⟨RJ0, "checkBoundsBeginEnd", "(III)V"⟩
def RJ1 : String := "java/lang/StringLatin1"
def TJ1 : u_T := fun k => match k with
  | _ => ("", "", "", false)
def tyJ1 : Nat → FieldType := fun k => match k with
  | _ => .int
theorem nmJ1 : ∀ a, a < 0 → ∀ b, b < 0 → a ≠ b → (TJ1 a).2.1 ≠ (TJ1 b).2.1 := by decide +kernel
theorem tyJ1_ok : ∀ k, k < 0 → parseFieldDescriptor (TJ1 k).2.2.1 = some (tyJ1 k) := by decide +kernel
abbrev cJ1_canEncode_9a6ad : ByteArray := prog_16_method_4_code
def yJ1_canEncode_9a6ad : MethodName := ⟨RJ1, "canEncode", "(I)Z"⟩
abbrev cJ1_indexOf_4cfef : ByteArray := prog_16_method_22_code
def yJ1_indexOf_4cfef : MethodName := ⟨RJ1, "indexOf", "([BIII)I"⟩
abbrev cJ1_indexOfChar_4cfef : ByteArray := prog_16_method_23_code
def yJ1_indexOfChar_4cfef : MethodName := ⟨RJ1, "indexOfChar", "([BIII)I"⟩
def RJ2 : String := "java/lang/StringUTF16"
def TJ2 : u_T := fun k => match k with
  | _ => ("", "", "", false)
def tyJ2 : Nat → FieldType := fun k => match k with
  | _ => .int
theorem nmJ2 : ∀ a, a < 0 → ∀ b, b < 0 → a ≠ b → (TJ2 a).2.1 ≠ (TJ2 b).2.1 := by decide +kernel
theorem tyJ2_ok : ∀ k, k < 0 → parseFieldDescriptor (TJ2 k).2.2.1 = some (tyJ2 k) := by decide +kernel
abbrev cJ2_getChar_3b067 : ByteArray := prog_17_method_5_code
def yJ2_getChar_3b067 : MethodName := ⟨RJ2, "getChar", "([BI)C"⟩
abbrev cJ2_length_9d52b : ByteArray := prog_17_method_6_code
def yJ2_length_9d52b : MethodName := ⟨RJ2, "length", "([B)I"⟩
abbrev cJ2_indexOf_4cfef : ByteArray := prog_17_method_40_code
def yJ2_indexOf_4cfef : MethodName := ⟨RJ2, "indexOf", "([BIII)I"⟩
abbrev cJ2_indexOfChar_4cfef : ByteArray := prog_17_method_47_code
def yJ2_indexOfChar_4cfef : MethodName := ⟨RJ2, "indexOfChar", "([BIII)I"⟩
abbrev cJ2_indexOfCharUnsafe_4cfef : ByteArray := prog_17_method_48_code
def yJ2_indexOfCharUnsafe_4cfef : MethodName := ⟨RJ2, "indexOfCharUnsafe", "([BIII)I"⟩
abbrev cJ2_indexOfSupplementary_4cfef : ByteArray := prog_17_method_49_code
def yJ2_indexOfSupplementary_4cfef : MethodName := ⟨RJ2, "indexOfSupplementary", "([BIII)I"⟩
abbrev cJ2_checkBoundsBeginEnd_d044e : ByteArray := prog_17_method_93_code
def yJ2_checkBoundsBeginEnd_d044e : MethodName := ⟨RJ2, "checkBoundsBeginEnd", "(II[B)V"⟩
def RJ3 : String := "jdk/internal/util/Preconditions"
def TJ3 : u_T := fun k => match k with
  | _ => ("", "", "", false)
def tyJ3 : Nat → FieldType := fun k => match k with
  | _ => .int
theorem nmJ3 : ∀ a, a < 0 → ∀ b, b < 0 → a ≠ b → (TJ3 a).2.1 ≠ (TJ3 b).2.1 := by decide +kernel
theorem tyJ3_ok : ∀ k, k < 0 → parseFieldDescriptor (TJ3 k).2.2.1 = some (tyJ3 k) := by decide +kernel
abbrev cJ3_checkFromToIndex_8c36e : ByteArray := prog_18_method_12_code
def yJ3_checkFromToIndex_8c36e : MethodName := ⟨RJ3, "checkFromToIndex", "(IIILjava/util/function/BiFunction;)I"⟩
def RL : String := "BroomFloodLaw"
abbrev cL_law : ByteArray := code
def yL_law : MethodName := ⟨RL, "law", "([I)Z"⟩
abbrev vwCl : List vw_C := [(RX0, TX0, 3), (RX1, TX1, 2), (RX2, TX2, 1), (RX3, TX3, 2), (RX4, TX4, 3), (RX5, TX5, 12), (RX6, TX6, 3), (RX7, TX7, 6), (RX8, TX8, 13), (RX9, TX9, 20)]
end
section
theorem dX0_init_0 : decode cX0_init 0 = .ok (.aload_n 0, 1) := by decide +kernel
theorem dX0_init_1 : decode cX0_init 1 = .ok (.invokespecial 1, 3) := by decide +kernel
theorem dX0_init_4 : decode cX0_init 4 = .ok (.aload_n 0, 1) := by decide +kernel
theorem dX0_init_5 : decode cX0_init 5 = .ok (.iconst 5, 1) := by decide +kernel
theorem dX0_init_6 : decode cX0_init 6 = .ok (.newarray .int, 2) := by decide +kernel
theorem dX0_init_8 : decode cX0_init 8 = .ok (.putfield 9, 3) := by decide +kernel
theorem dX0_init_11 : decode cX0_init 11 = .ok (.aload_n 0, 1) := by decide +kernel
theorem dX0_init_12 : decode cX0_init 12 = .ok (.new 13, 3) := by decide +kernel
theorem dX0_init_15 : decode cX0_init 15 = .ok (.dup, 1) := by decide +kernel
theorem dX0_init_16 : decode cX0_init 16 = .ok (.invokespecial 15, 3) := by decide +kernel
theorem dX0_init_19 : decode cX0_init 19 = .ok (.putfield 16, 3) := by decide +kernel
theorem dX0_init_22 : decode cX0_init 22 = .ok (.aload_n 0, 1) := by decide +kernel
theorem dX0_init_23 : decode cX0_init 23 = .ok (.invokevirtual 20, 3) := by decide +kernel
theorem dX0_init_26 : decode cX0_init 26 = .ok (.return_, 1) := by decide +kernel
theorem dX0_tellNothing_0 : decode cX0_tellNothing 0 = .ok (.iconst 0, 1) := by decide +kernel
theorem dX0_tellNothing_1 : decode cX0_tellNothing 1 = .ok (.istore_n 1, 1) := by decide +kernel
theorem dX0_tellNothing_2 : decode cX0_tellNothing 2 = .ok (.iload_n 1, 1) := by decide +kernel
theorem dX0_tellNothing_3 : decode cX0_tellNothing 3 = .ok (.iconst 5, 1) := by decide +kernel
theorem dX0_tellNothing_4 : decode cX0_tellNothing 4 = .ok (.if_icmp .ge 20, 3) := by decide +kernel
theorem dX0_tellNothing_7 : decode cX0_tellNothing 7 = .ok (.aload_n 0, 1) := by decide +kernel
theorem dX0_tellNothing_8 : decode cX0_tellNothing 8 = .ok (.getfield 9, 3) := by decide +kernel
theorem dX0_tellNothing_11 : decode cX0_tellNothing 11 = .ok (.iload_n 1, 1) := by decide +kernel
theorem dX0_tellNothing_12 : decode cX0_tellNothing 12 = .ok (.getstatic 23, 3) := by decide +kernel
theorem dX0_tellNothing_15 : decode cX0_tellNothing 15 = .ok (.iload_n 1, 1) := by decide +kernel
theorem dX0_tellNothing_16 : decode cX0_tellNothing 16 = .ok (.iaload, 1) := by decide +kernel
theorem dX0_tellNothing_17 : decode cX0_tellNothing 17 = .ok (.iastore, 1) := by decide +kernel
theorem dX0_tellNothing_18 : decode cX0_tellNothing 18 = .ok (.iinc 1 1, 3) := by decide +kernel
theorem dX0_tellNothing_21 : decode cX0_tellNothing 21 = .ok (.goto (-19), 3) := by decide +kernel
theorem dX0_tellNothing_24 : decode cX0_tellNothing 24 = .ok (.aload_n 0, 1) := by decide +kernel
theorem dX0_tellNothing_25 : decode cX0_tellNothing 25 = .ok (.iconst 0, 1) := by decide +kernel
theorem dX0_tellNothing_26 : decode cX0_tellNothing 26 = .ok (.putfield 26, 3) := by decide +kernel
theorem dX0_tellNothing_29 : decode cX0_tellNothing 29 = .ok (.aload_n 0, 1) := by decide +kernel
theorem dX0_tellNothing_30 : decode cX0_tellNothing 30 = .ok (.getfield 16, 3) := by decide +kernel
theorem dX0_tellNothing_33 : decode cX0_tellNothing 33 = .ok (.invokevirtual 30, 3) := by decide +kernel
theorem dX0_tellNothing_36 : decode cX0_tellNothing 36 = .ok (.return_, 1) := by decide +kernel
theorem dX0_copyFrom_0 : decode cX0_copyFrom 0 = .ok (.iconst 0, 1) := by decide +kernel
theorem dX0_copyFrom_1 : decode cX0_copyFrom 1 = .ok (.istore_n 2, 1) := by decide +kernel
theorem dX0_copyFrom_2 : decode cX0_copyFrom 2 = .ok (.iload_n 2, 1) := by decide +kernel
theorem dX0_copyFrom_3 : decode cX0_copyFrom 3 = .ok (.iconst 5, 1) := by decide +kernel
theorem dX0_copyFrom_4 : decode cX0_copyFrom 4 = .ok (.if_icmp .ge 21, 3) := by decide +kernel
theorem dX0_copyFrom_7 : decode cX0_copyFrom 7 = .ok (.aload_n 0, 1) := by decide +kernel
theorem dX0_copyFrom_8 : decode cX0_copyFrom 8 = .ok (.getfield 9, 3) := by decide +kernel
theorem dX0_copyFrom_11 : decode cX0_copyFrom 11 = .ok (.iload_n 2, 1) := by decide +kernel
theorem dX0_copyFrom_12 : decode cX0_copyFrom 12 = .ok (.aload_n 1, 1) := by decide +kernel
theorem dX0_copyFrom_13 : decode cX0_copyFrom 13 = .ok (.getfield 9, 3) := by decide +kernel
theorem dX0_copyFrom_16 : decode cX0_copyFrom 16 = .ok (.iload_n 2, 1) := by decide +kernel
theorem dX0_copyFrom_17 : decode cX0_copyFrom 17 = .ok (.iaload, 1) := by decide +kernel
theorem dX0_copyFrom_18 : decode cX0_copyFrom 18 = .ok (.iastore, 1) := by decide +kernel
theorem dX0_copyFrom_19 : decode cX0_copyFrom 19 = .ok (.iinc 2 1, 3) := by decide +kernel
theorem dX0_copyFrom_22 : decode cX0_copyFrom 22 = .ok (.goto (-20), 3) := by decide +kernel
theorem dX0_copyFrom_25 : decode cX0_copyFrom 25 = .ok (.aload_n 0, 1) := by decide +kernel
theorem dX0_copyFrom_26 : decode cX0_copyFrom 26 = .ok (.aload_n 1, 1) := by decide +kernel
theorem dX0_copyFrom_27 : decode cX0_copyFrom 27 = .ok (.getfield 26, 3) := by decide +kernel
theorem dX0_copyFrom_30 : decode cX0_copyFrom 30 = .ok (.putfield 26, 3) := by decide +kernel
theorem dX0_copyFrom_33 : decode cX0_copyFrom 33 = .ok (.aload_n 0, 1) := by decide +kernel
theorem dX0_copyFrom_34 : decode cX0_copyFrom 34 = .ok (.getfield 16, 3) := by decide +kernel
theorem dX0_copyFrom_37 : decode cX0_copyFrom 37 = .ok (.aload_n 1, 1) := by decide +kernel
theorem dX0_copyFrom_38 : decode cX0_copyFrom 38 = .ok (.getfield 16, 3) := by decide +kernel
theorem dX0_copyFrom_41 : decode cX0_copyFrom 41 = .ok (.invokevirtual 33, 3) := by decide +kernel
theorem dX0_copyFrom_44 : decode cX0_copyFrom 44 = .ok (.return_, 1) := by decide +kernel
theorem dX0_tellSetting_0 : decode cX0_tellSetting 0 = .ok (.iload_n 1, 1) := by decide +kernel
theorem dX0_tellSetting_1 : decode cX0_tellSetting 1 = .ok (.ifCond .lt 15, 3) := by decide +kernel
theorem dX0_tellSetting_4 : decode cX0_tellSetting 4 = .ok (.iload_n 1, 1) := by decide +kernel
theorem dX0_tellSetting_5 : decode cX0_tellSetting 5 = .ok (.iconst 5, 1) := by decide +kernel
theorem dX0_tellSetting_6 : decode cX0_tellSetting 6 = .ok (.if_icmp .ge 10, 3) := by decide +kernel
theorem dX0_tellSetting_9 : decode cX0_tellSetting 9 = .ok (.aload_n 0, 1) := by decide +kernel
theorem dX0_tellSetting_10 : decode cX0_tellSetting 10 = .ok (.getfield 9, 3) := by decide +kernel
theorem dX0_tellSetting_13 : decode cX0_tellSetting 13 = .ok (.iload_n 1, 1) := by decide +kernel
theorem dX0_tellSetting_14 : decode cX0_tellSetting 14 = .ok (.iload_n 2, 1) := by decide +kernel
theorem dX0_tellSetting_15 : decode cX0_tellSetting 15 = .ok (.iastore, 1) := by decide +kernel
theorem dX0_tellSetting_16 : decode cX0_tellSetting 16 = .ok (.return_, 1) := by decide +kernel
theorem dX0_tellBroom_0 : decode cX0_tellBroom 0 = .ok (.aload_n 0, 1) := by decide +kernel
theorem dX0_tellBroom_1 : decode cX0_tellBroom 1 = .ok (.getfield 16, 3) := by decide +kernel
theorem dX0_tellBroom_4 : decode cX0_tellBroom 4 = .ok (.aload_n 0, 1) := by decide +kernel
theorem dX0_tellBroom_5 : decode cX0_tellBroom 5 = .ok (.getfield 26, 3) := by decide +kernel
theorem dX0_tellBroom_8 : decode cX0_tellBroom 8 = .ok (.iload_n 1, 1) := by decide +kernel
theorem dX0_tellBroom_9 : decode cX0_tellBroom 9 = .ok (.iload_n 2, 1) := by decide +kernel
theorem dX0_tellBroom_10 : decode cX0_tellBroom 10 = .ok (.iload_n 3, 1) := by decide +kernel
theorem dX0_tellBroom_11 : decode cX0_tellBroom 11 = .ok (.invokevirtual 37, 3) := by decide +kernel
theorem dX0_tellBroom_14 : decode cX0_tellBroom 14 = .ok (.aload_n 0, 1) := by decide +kernel
theorem dX0_tellBroom_15 : decode cX0_tellBroom 15 = .ok (.dup, 1) := by decide +kernel
theorem dX0_tellBroom_16 : decode cX0_tellBroom 16 = .ok (.getfield 26, 3) := by decide +kernel
theorem dX0_tellBroom_19 : decode cX0_tellBroom 19 = .ok (.iconst 1, 1) := by decide +kernel
theorem dX0_tellBroom_20 : decode cX0_tellBroom 20 = .ok (.iadd, 1) := by decide +kernel
theorem dX0_tellBroom_21 : decode cX0_tellBroom 21 = .ok (.putfield 26, 3) := by decide +kernel
theorem dX0_tellBroom_24 : decode cX0_tellBroom 24 = .ok (.return_, 1) := by decide +kernel
theorem dX0_begin_0 : decode cX0_begin 0 = .ok (.aload_n 0, 1) := by decide +kernel
theorem dX0_begin_1 : decode cX0_begin 1 = .ok (.getfield 16, 3) := by decide +kernel
theorem dX0_begin_4 : decode cX0_begin 4 = .ok (.aload_n 0, 1) := by decide +kernel
theorem dX0_begin_5 : decode cX0_begin 5 = .ok (.getfield 9, 3) := by decide +kernel
theorem dX0_begin_8 : decode cX0_begin 8 = .ok (.iconst 0, 1) := by decide +kernel
theorem dX0_begin_9 : decode cX0_begin 9 = .ok (.iaload, 1) := by decide +kernel
theorem dX0_begin_10 : decode cX0_begin 10 = .ok (.putfield 41, 3) := by decide +kernel
theorem dX0_begin_13 : decode cX0_begin 13 = .ok (.aload_n 0, 1) := by decide +kernel
theorem dX0_begin_14 : decode cX0_begin 14 = .ok (.getfield 16, 3) := by decide +kernel
theorem dX0_begin_17 : decode cX0_begin 17 = .ok (.aload_n 0, 1) := by decide +kernel
theorem dX0_begin_18 : decode cX0_begin 18 = .ok (.aload_n 0, 1) := by decide +kernel
theorem dX0_begin_19 : decode cX0_begin 19 = .ok (.getfield 16, 3) := by decide +kernel
theorem dX0_begin_22 : decode cX0_begin 22 = .ok (.getfield 41, 3) := by decide +kernel
theorem dX0_begin_25 : decode cX0_begin 25 = .ok (.invokevirtual 44, 3) := by decide +kernel
theorem dX0_begin_28 : decode cX0_begin 28 = .ok (.putfield 48, 3) := by decide +kernel
theorem dX0_begin_31 : decode cX0_begin 31 = .ok (.return_, 1) := by decide +kernel
theorem dX0_heightOf_0 : decode cX0_heightOf 0 = .ok (.aload_n 0, 1) := by decide +kernel
theorem dX0_heightOf_1 : decode cX0_heightOf 1 = .ok (.getfield 9, 3) := by decide +kernel
theorem dX0_heightOf_4 : decode cX0_heightOf 4 = .ok (.iconst 1, 1) := by decide +kernel
theorem dX0_heightOf_5 : decode cX0_heightOf 5 = .ok (.iaload, 1) := by decide +kernel
theorem dX0_heightOf_6 : decode cX0_heightOf 6 = .ok (.istore_n 2, 1) := by decide +kernel
theorem dX0_heightOf_7 : decode cX0_heightOf 7 = .ok (.iload_n 2, 1) := by decide +kernel
theorem dX0_heightOf_8 : decode cX0_heightOf 8 = .ok (.iconst 1, 1) := by decide +kernel
theorem dX0_heightOf_9 : decode cX0_heightOf 9 = .ok (.if_icmp .ge 7, 3) := by decide +kernel
theorem dX0_heightOf_12 : decode cX0_heightOf 12 = .ok (.iconst 0, 1) := by decide +kernel
theorem dX0_heightOf_13 : decode cX0_heightOf 13 = .ok (.goto 6, 3) := by decide +kernel
theorem dX0_heightOf_16 : decode cX0_heightOf 16 = .ok (.iload_n 1, 1) := by decide +kernel
theorem dX0_heightOf_17 : decode cX0_heightOf 17 = .ok (.iload_n 2, 1) := by decide +kernel
theorem dX0_heightOf_18 : decode cX0_heightOf 18 = .ok (.idiv, 1) := by decide +kernel
theorem dX0_heightOf_19 : decode cX0_heightOf 19 = .ok (.ireturn, 1) := by decide +kernel
theorem dX0_isAboveMark_0 : decode cX0_isAboveMark 0 = .ok (.aload_n 0, 1) := by decide +kernel
theorem dX0_isAboveMark_1 : decode cX0_isAboveMark 1 = .ok (.iload_n 1, 1) := by decide +kernel
theorem dX0_isAboveMark_2 : decode cX0_isAboveMark 2 = .ok (.invokevirtual 44, 3) := by decide +kernel
theorem dX0_isAboveMark_5 : decode cX0_isAboveMark 5 = .ok (.aload_n 0, 1) := by decide +kernel
theorem dX0_isAboveMark_6 : decode cX0_isAboveMark 6 = .ok (.getfield 9, 3) := by decide +kernel
theorem dX0_isAboveMark_9 : decode cX0_isAboveMark 9 = .ok (.iconst 3, 1) := by decide +kernel
theorem dX0_isAboveMark_10 : decode cX0_isAboveMark 10 = .ok (.iaload, 1) := by decide +kernel
theorem dX0_isAboveMark_11 : decode cX0_isAboveMark 11 = .ok (.if_icmp .le 7, 3) := by decide +kernel
theorem dX0_isAboveMark_14 : decode cX0_isAboveMark 14 = .ok (.iconst 1, 1) := by decide +kernel
theorem dX0_isAboveMark_15 : decode cX0_isAboveMark 15 = .ok (.goto 4, 3) := by decide +kernel
theorem dX0_isAboveMark_18 : decode cX0_isAboveMark 18 = .ok (.iconst 0, 1) := by decide +kernel
theorem dX0_isAboveMark_19 : decode cX0_isAboveMark 19 = .ok (.ireturn, 1) := by decide +kernel
theorem dX0_stairWidth_0 : decode cX0_stairWidth 0 = .ok (.aload_n 0, 1) := by decide +kernel
theorem dX0_stairWidth_1 : decode cX0_stairWidth 1 = .ok (.getfield 9, 3) := by decide +kernel
theorem dX0_stairWidth_4 : decode cX0_stairWidth 4 = .ok (.iconst 4, 1) := by decide +kernel
theorem dX0_stairWidth_5 : decode cX0_stairWidth 5 = .ok (.iaload, 1) := by decide +kernel
theorem dX0_stairWidth_6 : decode cX0_stairWidth 6 = .ok (.ireturn, 1) := by decide +kernel
theorem dX0_drainCups_0 : decode cX0_drainCups 0 = .ok (.aload_n 0, 1) := by decide +kernel
theorem dX0_drainCups_1 : decode cX0_drainCups 1 = .ok (.getfield 9, 3) := by decide +kernel
theorem dX0_drainCups_4 : decode cX0_drainCups 4 = .ok (.iconst 2, 1) := by decide +kernel
theorem dX0_drainCups_5 : decode cX0_drainCups 5 = .ok (.iaload, 1) := by decide +kernel
theorem dX0_drainCups_6 : decode cX0_drainCups 6 = .ok (.ireturn, 1) := by decide +kernel
theorem dX1_init_0 : decode cX1_init 0 = .ok (.aload_n 0, 1) := by decide +kernel
theorem dX1_init_1 : decode cX1_init 1 = .ok (.invokespecial 1, 3) := by decide +kernel
theorem dX1_init_4 : decode cX1_init 4 = .ok (.aload_n 0, 1) := by decide +kernel
theorem dX1_init_5 : decode cX1_init 5 = .ok (.lconst 1, 1) := by decide +kernel
theorem dX1_init_6 : decode cX1_init 6 = .ok (.putfield 7, 3) := by decide +kernel
theorem dX1_init_9 : decode cX1_init 9 = .ok (.return_, 1) := by decide +kernel
theorem dX1_become_0 : decode cX1_become 0 = .ok (.aload_n 0, 1) := by decide +kernel
theorem dX1_become_1 : decode cX1_become 1 = .ok (.lload_n 1, 1) := by decide +kernel
theorem dX1_become_2 : decode cX1_become 2 = .ok (.putfield 13, 3) := by decide +kernel
theorem dX1_become_5 : decode cX1_become 5 = .ok (.aload_n 0, 1) := by decide +kernel
theorem dX1_become_6 : decode cX1_become 6 = .ok (.lload_n 3, 1) := by decide +kernel
theorem dX1_become_7 : decode cX1_become 7 = .ok (.putfield 7, 3) := by decide +kernel
theorem dX1_become_10 : decode cX1_become 10 = .ok (.lload_n 1, 1) := by decide +kernel
theorem dX1_become_11 : decode cX1_become 11 = .ok (.invokestatic 16, 3) := by decide +kernel
theorem dX1_become_14 : decode cX1_become 14 = .ok (.lload_n 3, 1) := by decide +kernel
theorem dX1_become_15 : decode cX1_become 15 = .ok (.invokestatic 22, 3) := by decide +kernel
theorem dX1_become_18 : decode cX1_become 18 = .ok (.lstore 5, 2) := by decide +kernel
theorem dX1_become_20 : decode cX1_become 20 = .ok (.lload 5, 2) := by decide +kernel
theorem dX1_become_22 : decode cX1_become 22 = .ok (.lconst 1, 1) := by decide +kernel
theorem dX1_become_23 : decode cX1_become 23 = .ok (.lcmp, 1) := by decide +kernel
theorem dX1_become_24 : decode cX1_become 24 = .ok (.ifCond .le 19, 3) := by decide +kernel
theorem dX1_become_27 : decode cX1_become 27 = .ok (.aload_n 0, 1) := by decide +kernel
theorem dX1_become_28 : decode cX1_become 28 = .ok (.lload_n 1, 1) := by decide +kernel
theorem dX1_become_29 : decode cX1_become 29 = .ok (.lload 5, 2) := by decide +kernel
theorem dX1_become_31 : decode cX1_become 31 = .ok (.ldiv, 1) := by decide +kernel
theorem dX1_become_32 : decode cX1_become 32 = .ok (.putfield 13, 3) := by decide +kernel
theorem dX1_become_35 : decode cX1_become 35 = .ok (.aload_n 0, 1) := by decide +kernel
theorem dX1_become_36 : decode cX1_become 36 = .ok (.lload_n 3, 1) := by decide +kernel
theorem dX1_become_37 : decode cX1_become 37 = .ok (.lload 5, 2) := by decide +kernel
theorem dX1_become_39 : decode cX1_become 39 = .ok (.ldiv, 1) := by decide +kernel
theorem dX1_become_40 : decode cX1_become 40 = .ok (.putfield 7, 3) := by decide +kernel
theorem dX1_become_43 : decode cX1_become 43 = .ok (.return_, 1) := by decide +kernel
theorem dX1_plus_0 : decode cX1_plus 0 = .ok (.aload_n 0, 1) := by decide +kernel
theorem dX1_plus_1 : decode cX1_plus 1 = .ok (.aload_n 0, 1) := by decide +kernel
theorem dX1_plus_2 : decode cX1_plus 2 = .ok (.getfield 13, 3) := by decide +kernel
theorem dX1_plus_5 : decode cX1_plus 5 = .ok (.lload_n 3, 1) := by decide +kernel
theorem dX1_plus_6 : decode cX1_plus 6 = .ok (.lmul, 1) := by decide +kernel
theorem dX1_plus_7 : decode cX1_plus 7 = .ok (.lload_n 1, 1) := by decide +kernel
theorem dX1_plus_8 : decode cX1_plus 8 = .ok (.aload_n 0, 1) := by decide +kernel
theorem dX1_plus_9 : decode cX1_plus 9 = .ok (.getfield 7, 3) := by decide +kernel
theorem dX1_plus_12 : decode cX1_plus 12 = .ok (.lmul, 1) := by decide +kernel
theorem dX1_plus_13 : decode cX1_plus 13 = .ok (.ladd, 1) := by decide +kernel
theorem dX1_plus_14 : decode cX1_plus 14 = .ok (.aload_n 0, 1) := by decide +kernel
theorem dX1_plus_15 : decode cX1_plus 15 = .ok (.getfield 7, 3) := by decide +kernel
theorem dX1_plus_18 : decode cX1_plus 18 = .ok (.lload_n 3, 1) := by decide +kernel
theorem dX1_plus_19 : decode cX1_plus 19 = .ok (.lmul, 1) := by decide +kernel
theorem dX1_plus_20 : decode cX1_plus 20 = .ok (.invokevirtual 26, 3) := by decide +kernel
theorem dX1_plus_23 : decode cX1_plus 23 = .ok (.return_, 1) := by decide +kernel
theorem dX1_part_0 : decode cX1_part 0 = .ok (.iload_n 1, 1) := by decide +kernel
theorem dX1_part_1 : decode cX1_part 1 = .ok (.ifCond .ne 10, 3) := by decide +kernel
theorem dX1_part_4 : decode cX1_part 4 = .ok (.aload_n 0, 1) := by decide +kernel
theorem dX1_part_5 : decode cX1_part 5 = .ok (.getfield 13, 3) := by decide +kernel
theorem dX1_part_8 : decode cX1_part 8 = .ok (.goto 7, 3) := by decide +kernel
theorem dX1_part_11 : decode cX1_part 11 = .ok (.aload_n 0, 1) := by decide +kernel
theorem dX1_part_12 : decode cX1_part 12 = .ok (.getfield 7, 3) := by decide +kernel
theorem dX1_part_15 : decode cX1_part 15 = .ok (.lreturn, 1) := by decide +kernel
theorem dX1_commonDivisor_0 : decode cX1_commonDivisor 0 = .ok (.lload_n 0, 1) := by decide +kernel
theorem dX1_commonDivisor_1 : decode cX1_commonDivisor 1 = .ok (.lstore 4, 2) := by decide +kernel
theorem dX1_commonDivisor_3 : decode cX1_commonDivisor 3 = .ok (.lload_n 2, 1) := by decide +kernel
theorem dX1_commonDivisor_4 : decode cX1_commonDivisor 4 = .ok (.lstore 6, 2) := by decide +kernel
theorem dX1_commonDivisor_6 : decode cX1_commonDivisor 6 = .ok (.iconst 0, 1) := by decide +kernel
theorem dX1_commonDivisor_7 : decode cX1_commonDivisor 7 = .ok (.istore 8, 2) := by decide +kernel
theorem dX1_commonDivisor_9 : decode cX1_commonDivisor 9 = .ok (.iload 8, 2) := by decide +kernel
theorem dX1_commonDivisor_11 : decode cX1_commonDivisor 11 = .ok (.sipush 200, 3) := by decide +kernel
theorem dX1_commonDivisor_14 : decode cX1_commonDivisor 14 = .ok (.if_icmp .ge 31, 3) := by decide +kernel
theorem dX1_commonDivisor_17 : decode cX1_commonDivisor 17 = .ok (.lload 6, 2) := by decide +kernel
theorem dX1_commonDivisor_19 : decode cX1_commonDivisor 19 = .ok (.lconst 0, 1) := by decide +kernel
theorem dX1_commonDivisor_20 : decode cX1_commonDivisor 20 = .ok (.lcmp, 1) := by decide +kernel
theorem dX1_commonDivisor_21 : decode cX1_commonDivisor 21 = .ok (.ifCond .eq 24, 3) := by decide +kernel
theorem dX1_commonDivisor_24 : decode cX1_commonDivisor 24 = .ok (.lload 4, 2) := by decide +kernel
theorem dX1_commonDivisor_26 : decode cX1_commonDivisor 26 = .ok (.lload 6, 2) := by decide +kernel
theorem dX1_commonDivisor_28 : decode cX1_commonDivisor 28 = .ok (.lrem, 1) := by decide +kernel
theorem dX1_commonDivisor_29 : decode cX1_commonDivisor 29 = .ok (.lstore 9, 2) := by decide +kernel
theorem dX1_commonDivisor_31 : decode cX1_commonDivisor 31 = .ok (.lload 6, 2) := by decide +kernel
theorem dX1_commonDivisor_33 : decode cX1_commonDivisor 33 = .ok (.lstore 4, 2) := by decide +kernel
theorem dX1_commonDivisor_35 : decode cX1_commonDivisor 35 = .ok (.lload 9, 2) := by decide +kernel
theorem dX1_commonDivisor_37 : decode cX1_commonDivisor 37 = .ok (.lstore 6, 2) := by decide +kernel
theorem dX1_commonDivisor_39 : decode cX1_commonDivisor 39 = .ok (.iinc 8 1, 3) := by decide +kernel
theorem dX1_commonDivisor_42 : decode cX1_commonDivisor 42 = .ok (.goto (-33), 3) := by decide +kernel
theorem dX1_commonDivisor_45 : decode cX1_commonDivisor 45 = .ok (.lload 4, 2) := by decide +kernel
theorem dX1_commonDivisor_47 : decode cX1_commonDivisor 47 = .ok (.lreturn, 1) := by decide +kernel
theorem dX2_init_0 : decode cX2_init 0 = .ok (.aload_n 0, 1) := by decide +kernel
theorem dX2_init_1 : decode cX2_init 1 = .ok (.invokespecial 1, 3) := by decide +kernel
theorem dX2_init_4 : decode cX2_init 4 = .ok (.return_, 1) := by decide +kernel
theorem dX2_asBroom_0 : decode cX2_asBroom 0 = .ok (.aload_n 0, 1) := by decide +kernel
theorem dX2_asBroom_1 : decode cX2_asBroom 1 = .ok (.dup, 1) := by decide +kernel
theorem dX2_asBroom_2 : decode cX2_asBroom 2 = .ok (.getfield 7, 3) := by decide +kernel
theorem dX2_asBroom_5 : decode cX2_asBroom 5 = .ok (.lconst 1, 1) := by decide +kernel
theorem dX2_asBroom_6 : decode cX2_asBroom 6 = .ok (.ladd, 1) := by decide +kernel
theorem dX2_asBroom_7 : decode cX2_asBroom 7 = .ok (.putfield 7, 3) := by decide +kernel
theorem dX2_asBroom_10 : decode cX2_asBroom 10 = .ok (.iload_n 1, 1) := by decide +kernel
theorem dX2_asBroom_11 : decode cX2_asBroom 11 = .ok (.ireturn, 1) := by decide +kernel
theorem dX2_asWet_0 : decode cX2_asWet 0 = .ok (.aload_n 0, 1) := by decide +kernel
theorem dX2_asWet_1 : decode cX2_asWet 1 = .ok (.dup, 1) := by decide +kernel
theorem dX2_asWet_2 : decode cX2_asWet 2 = .ok (.getfield 7, 3) := by decide +kernel
theorem dX2_asWet_5 : decode cX2_asWet 5 = .ok (.ldc2_w 13, 3) := by decide +kernel
theorem dX2_asWet_8 : decode cX2_asWet 8 = .ok (.ladd, 1) := by decide +kernel
theorem dX2_asWet_9 : decode cX2_asWet 9 = .ok (.putfield 7, 3) := by decide +kernel
theorem dX2_asWet_12 : decode cX2_asWet 12 = .ok (.aload_n 0, 1) := by decide +kernel
theorem dX2_asWet_13 : decode cX2_asWet 13 = .ok (.iload_n 1, 1) := by decide +kernel
theorem dX2_asWet_14 : decode cX2_asWet 14 = .ok (.invokevirtual 15, 3) := by decide +kernel
theorem dX2_asWet_17 : decode cX2_asWet 17 = .ok (.iload_n 2, 1) := by decide +kernel
theorem dX2_asWet_18 : decode cX2_asWet 18 = .ok (.iadd, 1) := by decide +kernel
theorem dX2_asWet_19 : decode cX2_asWet 19 = .ok (.ireturn, 1) := by decide +kernel
theorem dX2_asHalf_0 : decode cX2_asHalf 0 = .ok (.aload_n 0, 1) := by decide +kernel
theorem dX2_asHalf_1 : decode cX2_asHalf 1 = .ok (.dup, 1) := by decide +kernel
theorem dX2_asHalf_2 : decode cX2_asHalf 2 = .ok (.getfield 7, 3) := by decide +kernel
theorem dX2_asHalf_5 : decode cX2_asHalf 5 = .ok (.ldc2_w 19, 3) := by decide +kernel
theorem dX2_asHalf_8 : decode cX2_asHalf 8 = .ok (.ladd, 1) := by decide +kernel
theorem dX2_asHalf_9 : decode cX2_asHalf 9 = .ok (.putfield 7, 3) := by decide +kernel
theorem dX2_asHalf_12 : decode cX2_asHalf 12 = .ok (.aload_n 0, 1) := by decide +kernel
theorem dX2_asHalf_13 : decode cX2_asHalf 13 = .ok (.iload_n 1, 1) := by decide +kernel
theorem dX2_asHalf_14 : decode cX2_asHalf 14 = .ok (.invokevirtual 15, 3) := by decide +kernel
theorem dX2_asHalf_17 : decode cX2_asHalf 17 = .ok (.iload_n 2, 1) := by decide +kernel
theorem dX2_asHalf_18 : decode cX2_asHalf 18 = .ok (.isub, 1) := by decide +kernel
theorem dX2_asHalf_19 : decode cX2_asHalf 19 = .ok (.ireturn, 1) := by decide +kernel
theorem dX2_asBored_0 : decode cX2_asBored 0 = .ok (.aload_n 0, 1) := by decide +kernel
theorem dX2_asBored_1 : decode cX2_asBored 1 = .ok (.dup, 1) := by decide +kernel
theorem dX2_asBored_2 : decode cX2_asBored 2 = .ok (.getfield 7, 3) := by decide +kernel
theorem dX2_asBored_5 : decode cX2_asBored 5 = .ok (.ldc2_w 21, 3) := by decide +kernel
theorem dX2_asBored_8 : decode cX2_asBored 8 = .ok (.ladd, 1) := by decide +kernel
theorem dX2_asBored_9 : decode cX2_asBored 9 = .ok (.putfield 7, 3) := by decide +kernel
theorem dX2_asBored_12 : decode cX2_asBored 12 = .ok (.iconst 2, 1) := by decide +kernel
theorem dX2_asBored_13 : decode cX2_asBored 13 = .ok (.aload_n 0, 1) := by decide +kernel
theorem dX2_asBored_14 : decode cX2_asBored 14 = .ok (.iload_n 1, 1) := by decide +kernel
theorem dX2_asBored_15 : decode cX2_asBored 15 = .ok (.iload_n 2, 1) := by decide +kernel
theorem dX2_asBored_16 : decode cX2_asBored 16 = .ok (.invokevirtual 23, 3) := by decide +kernel
theorem dX2_asBored_19 : decode cX2_asBored 19 = .ok (.imul, 1) := by decide +kernel
theorem dX2_asBored_20 : decode cX2_asBored 20 = .ok (.ireturn, 1) := by decide +kernel
theorem dX2_asBurning_0 : decode cX2_asBurning 0 = .ok (.aload_n 0, 1) := by decide +kernel
theorem dX2_asBurning_1 : decode cX2_asBurning 1 = .ok (.dup, 1) := by decide +kernel
theorem dX2_asBurning_2 : decode cX2_asBurning 2 = .ok (.getfield 7, 3) := by decide +kernel
theorem dX2_asBurning_5 : decode cX2_asBurning 5 = .ok (.ldc2_w 27, 3) := by decide +kernel
theorem dX2_asBurning_8 : decode cX2_asBurning 8 = .ok (.ladd, 1) := by decide +kernel
theorem dX2_asBurning_9 : decode cX2_asBurning 9 = .ok (.putfield 7, 3) := by decide +kernel
theorem dX2_asBurning_12 : decode cX2_asBurning 12 = .ok (.aload_n 0, 1) := by decide +kernel
theorem dX2_asBurning_13 : decode cX2_asBurning 13 = .ok (.iload_n 1, 1) := by decide +kernel
theorem dX2_asBurning_14 : decode cX2_asBurning 14 = .ok (.iload_n 2, 1) := by decide +kernel
theorem dX2_asBurning_15 : decode cX2_asBurning 15 = .ok (.invokevirtual 29, 3) := by decide +kernel
theorem dX2_asBurning_18 : decode cX2_asBurning 18 = .ok (.iload_n 3, 1) := by decide +kernel
theorem dX2_asBurning_19 : decode cX2_asBurning 19 = .ok (.iadd, 1) := by decide +kernel
theorem dX2_asBurning_20 : decode cX2_asBurning 20 = .ok (.ireturn, 1) := by decide +kernel
theorem dX2_asTeaching_0 : decode cX2_asTeaching 0 = .ok (.aload_n 0, 1) := by decide +kernel
theorem dX2_asTeaching_1 : decode cX2_asTeaching 1 = .ok (.dup, 1) := by decide +kernel
theorem dX2_asTeaching_2 : decode cX2_asTeaching 2 = .ok (.getfield 7, 3) := by decide +kernel
theorem dX2_asTeaching_5 : decode cX2_asTeaching 5 = .ok (.ldc2_w 32, 3) := by decide +kernel
theorem dX2_asTeaching_8 : decode cX2_asTeaching 8 = .ok (.ladd, 1) := by decide +kernel
theorem dX2_asTeaching_9 : decode cX2_asTeaching 9 = .ok (.putfield 7, 3) := by decide +kernel
theorem dX2_asTeaching_12 : decode cX2_asTeaching 12 = .ok (.aload_n 0, 1) := by decide +kernel
theorem dX2_asTeaching_13 : decode cX2_asTeaching 13 = .ok (.iload_n 1, 1) := by decide +kernel
theorem dX2_asTeaching_14 : decode cX2_asTeaching 14 = .ok (.invokevirtual 15, 3) := by decide +kernel
theorem dX2_asTeaching_17 : decode cX2_asTeaching 17 = .ok (.iload_n 2, 1) := by decide +kernel
theorem dX2_asTeaching_18 : decode cX2_asTeaching 18 = .ok (.iadd, 1) := by decide +kernel
theorem dX2_asTeaching_19 : decode cX2_asTeaching 19 = .ok (.ireturn, 1) := by decide +kernel
theorem dX3_init_0 : decode cX3_init 0 = .ok (.aload_n 0, 1) := by decide +kernel
theorem dX3_init_1 : decode cX3_init 1 = .ok (.invokespecial 1, 3) := by decide +kernel
theorem dX3_init_4 : decode cX3_init 4 = .ok (.aload_n 0, 1) := by decide +kernel
theorem dX3_init_5 : decode cX3_init 5 = .ok (.sipush 200, 3) := by decide +kernel
theorem dX3_init_8 : decode cX3_init 8 = .ok (.newarray .int, 2) := by decide +kernel
theorem dX3_init_10 : decode cX3_init 10 = .ok (.putfield 9, 3) := by decide +kernel
theorem dX3_init_13 : decode cX3_init 13 = .ok (.return_, 1) := by decide +kernel
theorem dX3_add_0 : decode cX3_add 0 = .ok (.aload_n 0, 1) := by decide +kernel
theorem dX3_add_1 : decode cX3_add 1 = .ok (.getfield 13, 3) := by decide +kernel
theorem dX3_add_4 : decode cX3_add 4 = .ok (.ifCond .lt 13, 3) := by decide +kernel
theorem dX3_add_7 : decode cX3_add 7 = .ok (.aload_n 0, 1) := by decide +kernel
theorem dX3_add_8 : decode cX3_add 8 = .ok (.getfield 13, 3) := by decide +kernel
theorem dX3_add_11 : decode cX3_add 11 = .ok (.sipush 200, 3) := by decide +kernel
theorem dX3_add_14 : decode cX3_add 14 = .ok (.if_icmp .lt 5, 3) := by decide +kernel
theorem dX3_add_17 : decode cX3_add 17 = .ok (.iconst 0, 1) := by decide +kernel
theorem dX3_add_18 : decode cX3_add 18 = .ok (.ireturn, 1) := by decide +kernel
theorem dX3_add_19 : decode cX3_add 19 = .ok (.aload_n 0, 1) := by decide +kernel
theorem dX3_add_20 : decode cX3_add 20 = .ok (.getfield 9, 3) := by decide +kernel
theorem dX3_add_23 : decode cX3_add 23 = .ok (.aload_n 0, 1) := by decide +kernel
theorem dX3_add_24 : decode cX3_add 24 = .ok (.getfield 13, 3) := by decide +kernel
theorem dX3_add_27 : decode cX3_add 27 = .ok (.iload_n 1, 1) := by decide +kernel
theorem dX3_add_28 : decode cX3_add 28 = .ok (.iastore, 1) := by decide +kernel
theorem dX3_add_29 : decode cX3_add 29 = .ok (.aload_n 0, 1) := by decide +kernel
theorem dX3_add_30 : decode cX3_add 30 = .ok (.dup, 1) := by decide +kernel
theorem dX3_add_31 : decode cX3_add 31 = .ok (.getfield 13, 3) := by decide +kernel
theorem dX3_add_34 : decode cX3_add 34 = .ok (.iconst 1, 1) := by decide +kernel
theorem dX3_add_35 : decode cX3_add 35 = .ok (.iadd, 1) := by decide +kernel
theorem dX3_add_36 : decode cX3_add 36 = .ok (.putfield 13, 3) := by decide +kernel
theorem dX3_add_39 : decode cX3_add 39 = .ok (.iconst 1, 1) := by decide +kernel
theorem dX3_add_40 : decode cX3_add 40 = .ok (.ireturn, 1) := by decide +kernel
theorem dX3_at_0 : decode cX3_at 0 = .ok (.iload_n 1, 1) := by decide +kernel
theorem dX3_at_1 : decode cX3_at 1 = .ok (.ifCond .lt 27, 3) := by decide +kernel
theorem dX3_at_4 : decode cX3_at 4 = .ok (.iload_n 1, 1) := by decide +kernel
theorem dX3_at_5 : decode cX3_at 5 = .ok (.aload_n 0, 1) := by decide +kernel
theorem dX3_at_6 : decode cX3_at 6 = .ok (.getfield 13, 3) := by decide +kernel
theorem dX3_at_9 : decode cX3_at 9 = .ok (.if_icmp .ge 19, 3) := by decide +kernel
theorem dX3_at_12 : decode cX3_at 12 = .ok (.iload_n 1, 1) := by decide +kernel
theorem dX3_at_13 : decode cX3_at 13 = .ok (.sipush 200, 3) := by decide +kernel
theorem dX3_at_16 : decode cX3_at 16 = .ok (.if_icmp .ge 12, 3) := by decide +kernel
theorem dX3_at_19 : decode cX3_at 19 = .ok (.aload_n 0, 1) := by decide +kernel
theorem dX3_at_20 : decode cX3_at 20 = .ok (.getfield 9, 3) := by decide +kernel
theorem dX3_at_23 : decode cX3_at 23 = .ok (.iload_n 1, 1) := by decide +kernel
theorem dX3_at_24 : decode cX3_at 24 = .ok (.iaload, 1) := by decide +kernel
theorem dX3_at_25 : decode cX3_at 25 = .ok (.goto 4, 3) := by decide +kernel
theorem dX3_at_28 : decode cX3_at 28 = .ok (.iconst (-1), 1) := by decide +kernel
theorem dX3_at_29 : decode cX3_at 29 = .ok (.ireturn, 1) := by decide +kernel
theorem dX4_init_0 : decode cX4_init 0 = .ok (.aload_n 0, 1) := by decide +kernel
theorem dX4_init_1 : decode cX4_init 1 = .ok (.invokespecial 1, 3) := by decide +kernel
theorem dX4_init_4 : decode cX4_init 4 = .ok (.aload_n 0, 1) := by decide +kernel
theorem dX4_init_5 : decode cX4_init 5 = .ok (.iconst 4, 1) := by decide +kernel
theorem dX4_init_6 : decode cX4_init 6 = .ok (.newarray .int, 2) := by decide +kernel
theorem dX4_init_8 : decode cX4_init 8 = .ok (.putfield 9, 3) := by decide +kernel
theorem dX4_init_11 : decode cX4_init 11 = .ok (.aload_n 0, 1) := by decide +kernel
theorem dX4_init_12 : decode cX4_init 12 = .ok (.iconst 4, 1) := by decide +kernel
theorem dX4_init_13 : decode cX4_init 13 = .ok (.newarray .int, 2) := by decide +kernel
theorem dX4_init_15 : decode cX4_init 15 = .ok (.putfield 13, 3) := by decide +kernel
theorem dX4_init_18 : decode cX4_init 18 = .ok (.return_, 1) := by decide +kernel
theorem dX4_add_0 : decode cX4_add 0 = .ok (.aload_n 0, 1) := by decide +kernel
theorem dX4_add_1 : decode cX4_add 1 = .ok (.getfield 16, 3) := by decide +kernel
theorem dX4_add_4 : decode cX4_add 4 = .ok (.ifCond .lt 11, 3) := by decide +kernel
theorem dX4_add_7 : decode cX4_add 7 = .ok (.aload_n 0, 1) := by decide +kernel
theorem dX4_add_8 : decode cX4_add 8 = .ok (.getfield 16, 3) := by decide +kernel
theorem dX4_add_11 : decode cX4_add 11 = .ok (.iconst 4, 1) := by decide +kernel
theorem dX4_add_12 : decode cX4_add 12 = .ok (.if_icmp .lt 5, 3) := by decide +kernel
theorem dX4_add_15 : decode cX4_add 15 = .ok (.iconst 0, 1) := by decide +kernel
theorem dX4_add_16 : decode cX4_add 16 = .ok (.ireturn, 1) := by decide +kernel
theorem dX4_add_17 : decode cX4_add 17 = .ok (.aload_n 0, 1) := by decide +kernel
theorem dX4_add_18 : decode cX4_add 18 = .ok (.getfield 9, 3) := by decide +kernel
theorem dX4_add_21 : decode cX4_add 21 = .ok (.aload_n 0, 1) := by decide +kernel
theorem dX4_add_22 : decode cX4_add 22 = .ok (.getfield 16, 3) := by decide +kernel
theorem dX4_add_25 : decode cX4_add 25 = .ok (.iload_n 1, 1) := by decide +kernel
theorem dX4_add_26 : decode cX4_add 26 = .ok (.iastore, 1) := by decide +kernel
theorem dX4_add_27 : decode cX4_add 27 = .ok (.aload_n 0, 1) := by decide +kernel
theorem dX4_add_28 : decode cX4_add 28 = .ok (.getfield 13, 3) := by decide +kernel
theorem dX4_add_31 : decode cX4_add 31 = .ok (.aload_n 0, 1) := by decide +kernel
theorem dX4_add_32 : decode cX4_add 32 = .ok (.getfield 16, 3) := by decide +kernel
theorem dX4_add_35 : decode cX4_add 35 = .ok (.iload_n 2, 1) := by decide +kernel
theorem dX4_add_36 : decode cX4_add 36 = .ok (.iastore, 1) := by decide +kernel
theorem dX4_add_37 : decode cX4_add 37 = .ok (.aload_n 0, 1) := by decide +kernel
theorem dX4_add_38 : decode cX4_add 38 = .ok (.dup, 1) := by decide +kernel
theorem dX4_add_39 : decode cX4_add 39 = .ok (.getfield 16, 3) := by decide +kernel
theorem dX4_add_42 : decode cX4_add 42 = .ok (.iconst 1, 1) := by decide +kernel
theorem dX4_add_43 : decode cX4_add 43 = .ok (.iadd, 1) := by decide +kernel
theorem dX4_add_44 : decode cX4_add 44 = .ok (.putfield 16, 3) := by decide +kernel
theorem dX4_add_47 : decode cX4_add 47 = .ok (.iconst 1, 1) := by decide +kernel
theorem dX4_add_48 : decode cX4_add 48 = .ok (.ireturn, 1) := by decide +kernel
theorem dX4_allowWater_0 : decode cX4_allowWater 0 = .ok (.iconst 0, 1) := by decide +kernel
theorem dX4_allowWater_1 : decode cX4_allowWater 1 = .ok (.istore_n 3, 1) := by decide +kernel
theorem dX4_allowWater_2 : decode cX4_allowWater 2 = .ok (.iload_n 3, 1) := by decide +kernel
theorem dX4_allowWater_3 : decode cX4_allowWater 3 = .ok (.aload_n 0, 1) := by decide +kernel
theorem dX4_allowWater_4 : decode cX4_allowWater 4 = .ok (.getfield 16, 3) := by decide +kernel
theorem dX4_allowWater_7 : decode cX4_allowWater 7 = .ok (.if_icmp .ge 36, 3) := by decide +kernel
theorem dX4_allowWater_10 : decode cX4_allowWater 10 = .ok (.iload_n 3, 1) := by decide +kernel
theorem dX4_allowWater_11 : decode cX4_allowWater 11 = .ok (.iconst 4, 1) := by decide +kernel
theorem dX4_allowWater_12 : decode cX4_allowWater 12 = .ok (.if_icmp .ge 31, 3) := by decide +kernel
theorem dX4_allowWater_15 : decode cX4_allowWater 15 = .ok (.aload_n 0, 1) := by decide +kernel
theorem dX4_allowWater_16 : decode cX4_allowWater 16 = .ok (.getfield 9, 3) := by decide +kernel
theorem dX4_allowWater_19 : decode cX4_allowWater 19 = .ok (.iload_n 3, 1) := by decide +kernel
theorem dX4_allowWater_20 : decode cX4_allowWater 20 = .ok (.iaload, 1) := by decide +kernel
theorem dX4_allowWater_21 : decode cX4_allowWater 21 = .ok (.iload_n 1, 1) := by decide +kernel
theorem dX4_allowWater_22 : decode cX4_allowWater 22 = .ok (.if_icmp .ne 15, 3) := by decide +kernel
theorem dX4_allowWater_25 : decode cX4_allowWater 25 = .ok (.aload_n 0, 1) := by decide +kernel
theorem dX4_allowWater_26 : decode cX4_allowWater 26 = .ok (.getfield 13, 3) := by decide +kernel
theorem dX4_allowWater_29 : decode cX4_allowWater 29 = .ok (.iload_n 3, 1) := by decide +kernel
theorem dX4_allowWater_30 : decode cX4_allowWater 30 = .ok (.iaload, 1) := by decide +kernel
theorem dX4_allowWater_31 : decode cX4_allowWater 31 = .ok (.iload_n 2, 1) := by decide +kernel
theorem dX4_allowWater_32 : decode cX4_allowWater 32 = .ok (.if_icmp .eq 5, 3) := by decide +kernel
theorem dX4_allowWater_35 : decode cX4_allowWater 35 = .ok (.iconst 0, 1) := by decide +kernel
theorem dX4_allowWater_36 : decode cX4_allowWater 36 = .ok (.ireturn, 1) := by decide +kernel
theorem dX4_allowWater_37 : decode cX4_allowWater 37 = .ok (.iinc 3 1, 3) := by decide +kernel
theorem dX4_allowWater_40 : decode cX4_allowWater 40 = .ok (.goto (-38), 3) := by decide +kernel
theorem dX4_allowWater_43 : decode cX4_allowWater 43 = .ok (.iconst 1, 1) := by decide +kernel
theorem dX4_allowWater_44 : decode cX4_allowWater 44 = .ok (.ireturn, 1) := by decide +kernel
theorem dX5_init_0 : decode cX5_init 0 = .ok (.aload_n 0, 1) := by decide +kernel
theorem dX5_init_1 : decode cX5_init 1 = .ok (.invokespecial 3, 3) := by decide +kernel
theorem dX5_init_4 : decode cX5_init 4 = .ok (.aload_n 0, 1) := by decide +kernel
theorem dX5_init_5 : decode cX5_init 5 = .ok (.bipush 8, 2) := by decide +kernel
theorem dX5_init_7 : decode cX5_init 7 = .ok (.newarray .int, 2) := by decide +kernel
theorem dX5_init_9 : decode cX5_init 9 = .ok (.putfield 9, 3) := by decide +kernel
theorem dX5_init_12 : decode cX5_init 12 = .ok (.aload_n 0, 1) := by decide +kernel
theorem dX5_init_13 : decode cX5_init 13 = .ok (.bipush 8, 2) := by decide +kernel
theorem dX5_init_15 : decode cX5_init 15 = .ok (.newarray .int, 2) := by decide +kernel
theorem dX5_init_17 : decode cX5_init 17 = .ok (.putfield 15, 3) := by decide +kernel
theorem dX5_init_20 : decode cX5_init 20 = .ok (.aload_n 0, 1) := by decide +kernel
theorem dX5_init_21 : decode cX5_init 21 = .ok (.bipush 8, 2) := by decide +kernel
theorem dX5_init_23 : decode cX5_init 23 = .ok (.newarray .int, 2) := by decide +kernel
theorem dX5_init_25 : decode cX5_init 25 = .ok (.putfield 18, 3) := by decide +kernel
theorem dX5_init_28 : decode cX5_init 28 = .ok (.return_, 1) := by decide +kernel
theorem dX5_copyFrom_0 : decode cX5_copyFrom 0 = .ok (.aload_n 0, 1) := by decide +kernel
theorem dX5_copyFrom_1 : decode cX5_copyFrom 1 = .ok (.aload_n 1, 1) := by decide +kernel
theorem dX5_copyFrom_2 : decode cX5_copyFrom 2 = .ok (.getfield 21, 3) := by decide +kernel
theorem dX5_copyFrom_5 : decode cX5_copyFrom 5 = .ok (.putfield 21, 3) := by decide +kernel
theorem dX5_copyFrom_8 : decode cX5_copyFrom 8 = .ok (.aload_n 0, 1) := by decide +kernel
theorem dX5_copyFrom_9 : decode cX5_copyFrom 9 = .ok (.aload_n 1, 1) := by decide +kernel
theorem dX5_copyFrom_10 : decode cX5_copyFrom 10 = .ok (.getfield 25, 3) := by decide +kernel
theorem dX5_copyFrom_13 : decode cX5_copyFrom 13 = .ok (.putfield 25, 3) := by decide +kernel
theorem dX5_copyFrom_16 : decode cX5_copyFrom 16 = .ok (.aload_n 0, 1) := by decide +kernel
theorem dX5_copyFrom_17 : decode cX5_copyFrom 17 = .ok (.aload_n 1, 1) := by decide +kernel
theorem dX5_copyFrom_18 : decode cX5_copyFrom 18 = .ok (.getfield 28, 3) := by decide +kernel
theorem dX5_copyFrom_21 : decode cX5_copyFrom 21 = .ok (.putfield 28, 3) := by decide +kernel
theorem dX5_copyFrom_24 : decode cX5_copyFrom 24 = .ok (.iconst 0, 1) := by decide +kernel
theorem dX5_copyFrom_25 : decode cX5_copyFrom 25 = .ok (.istore_n 2, 1) := by decide +kernel
theorem dX5_copyFrom_26 : decode cX5_copyFrom 26 = .ok (.iload_n 2, 1) := by decide +kernel
theorem dX5_copyFrom_27 : decode cX5_copyFrom 27 = .ok (.bipush 8, 2) := by decide +kernel
theorem dX5_copyFrom_29 : decode cX5_copyFrom 29 = .ok (.if_icmp .ge 45, 3) := by decide +kernel
theorem dX5_copyFrom_32 : decode cX5_copyFrom 32 = .ok (.aload_n 0, 1) := by decide +kernel
theorem dX5_copyFrom_33 : decode cX5_copyFrom 33 = .ok (.getfield 9, 3) := by decide +kernel
theorem dX5_copyFrom_36 : decode cX5_copyFrom 36 = .ok (.iload_n 2, 1) := by decide +kernel
theorem dX5_copyFrom_37 : decode cX5_copyFrom 37 = .ok (.aload_n 1, 1) := by decide +kernel
theorem dX5_copyFrom_38 : decode cX5_copyFrom 38 = .ok (.getfield 9, 3) := by decide +kernel
theorem dX5_copyFrom_41 : decode cX5_copyFrom 41 = .ok (.iload_n 2, 1) := by decide +kernel
theorem dX5_copyFrom_42 : decode cX5_copyFrom 42 = .ok (.iaload, 1) := by decide +kernel
theorem dX5_copyFrom_43 : decode cX5_copyFrom 43 = .ok (.iastore, 1) := by decide +kernel
theorem dX5_copyFrom_44 : decode cX5_copyFrom 44 = .ok (.aload_n 0, 1) := by decide +kernel
theorem dX5_copyFrom_45 : decode cX5_copyFrom 45 = .ok (.getfield 15, 3) := by decide +kernel
theorem dX5_copyFrom_48 : decode cX5_copyFrom 48 = .ok (.iload_n 2, 1) := by decide +kernel
theorem dX5_copyFrom_49 : decode cX5_copyFrom 49 = .ok (.aload_n 1, 1) := by decide +kernel
theorem dX5_copyFrom_50 : decode cX5_copyFrom 50 = .ok (.getfield 15, 3) := by decide +kernel
theorem dX5_copyFrom_53 : decode cX5_copyFrom 53 = .ok (.iload_n 2, 1) := by decide +kernel
theorem dX5_copyFrom_54 : decode cX5_copyFrom 54 = .ok (.iaload, 1) := by decide +kernel
theorem dX5_copyFrom_55 : decode cX5_copyFrom 55 = .ok (.iastore, 1) := by decide +kernel
theorem dX5_copyFrom_56 : decode cX5_copyFrom 56 = .ok (.aload_n 0, 1) := by decide +kernel
theorem dX5_copyFrom_57 : decode cX5_copyFrom 57 = .ok (.getfield 18, 3) := by decide +kernel
theorem dX5_copyFrom_60 : decode cX5_copyFrom 60 = .ok (.iload_n 2, 1) := by decide +kernel
theorem dX5_copyFrom_61 : decode cX5_copyFrom 61 = .ok (.aload_n 1, 1) := by decide +kernel
theorem dX5_copyFrom_62 : decode cX5_copyFrom 62 = .ok (.getfield 18, 3) := by decide +kernel
theorem dX5_copyFrom_65 : decode cX5_copyFrom 65 = .ok (.iload_n 2, 1) := by decide +kernel
theorem dX5_copyFrom_66 : decode cX5_copyFrom 66 = .ok (.iaload, 1) := by decide +kernel
theorem dX5_copyFrom_67 : decode cX5_copyFrom 67 = .ok (.iastore, 1) := by decide +kernel
theorem dX5_copyFrom_68 : decode cX5_copyFrom 68 = .ok (.iinc 2 1, 3) := by decide +kernel
theorem dX5_copyFrom_71 : decode cX5_copyFrom 71 = .ok (.goto (-45), 3) := by decide +kernel
theorem dX5_copyFrom_74 : decode cX5_copyFrom 74 = .ok (.aload_n 0, 1) := by decide +kernel
theorem dX5_copyFrom_75 : decode cX5_copyFrom 75 = .ok (.aload_n 1, 1) := by decide +kernel
theorem dX5_copyFrom_76 : decode cX5_copyFrom 76 = .ok (.getfield 31, 3) := by decide +kernel
theorem dX5_copyFrom_79 : decode cX5_copyFrom 79 = .ok (.putfield 31, 3) := by decide +kernel
theorem dX5_copyFrom_82 : decode cX5_copyFrom 82 = .ok (.aload_n 0, 1) := by decide +kernel
theorem dX5_copyFrom_83 : decode cX5_copyFrom 83 = .ok (.aload_n 1, 1) := by decide +kernel
theorem dX5_copyFrom_84 : decode cX5_copyFrom 84 = .ok (.getfield 34, 3) := by decide +kernel
theorem dX5_copyFrom_87 : decode cX5_copyFrom 87 = .ok (.putfield 34, 3) := by decide +kernel
theorem dX5_copyFrom_90 : decode cX5_copyFrom 90 = .ok (.aload_n 0, 1) := by decide +kernel
theorem dX5_copyFrom_91 : decode cX5_copyFrom 91 = .ok (.aload_n 1, 1) := by decide +kernel
theorem dX5_copyFrom_92 : decode cX5_copyFrom 92 = .ok (.getfield 37, 3) := by decide +kernel
theorem dX5_copyFrom_95 : decode cX5_copyFrom 95 = .ok (.putfield 37, 3) := by decide +kernel
theorem dX5_copyFrom_98 : decode cX5_copyFrom 98 = .ok (.aload_n 0, 1) := by decide +kernel
theorem dX5_copyFrom_99 : decode cX5_copyFrom 99 = .ok (.aload_n 1, 1) := by decide +kernel
theorem dX5_copyFrom_100 : decode cX5_copyFrom 100 = .ok (.getfield 40, 3) := by decide +kernel
theorem dX5_copyFrom_103 : decode cX5_copyFrom 103 = .ok (.putfield 40, 3) := by decide +kernel
theorem dX5_copyFrom_106 : decode cX5_copyFrom 106 = .ok (.return_, 1) := by decide +kernel
theorem dX5_empty_0 : decode cX5_empty 0 = .ok (.aload_n 0, 1) := by decide +kernel
theorem dX5_empty_1 : decode cX5_empty 1 = .ok (.iconst 0, 1) := by decide +kernel
theorem dX5_empty_2 : decode cX5_empty 2 = .ok (.putfield 21, 3) := by decide +kernel
theorem dX5_empty_5 : decode cX5_empty 5 = .ok (.aload_n 0, 1) := by decide +kernel
theorem dX5_empty_6 : decode cX5_empty 6 = .ok (.iconst 0, 1) := by decide +kernel
theorem dX5_empty_7 : decode cX5_empty 7 = .ok (.putfield 25, 3) := by decide +kernel
theorem dX5_empty_10 : decode cX5_empty 10 = .ok (.aload_n 0, 1) := by decide +kernel
theorem dX5_empty_11 : decode cX5_empty 11 = .ok (.iconst 0, 1) := by decide +kernel
theorem dX5_empty_12 : decode cX5_empty 12 = .ok (.putfield 28, 3) := by decide +kernel
theorem dX5_empty_15 : decode cX5_empty 15 = .ok (.iconst 0, 1) := by decide +kernel
theorem dX5_empty_16 : decode cX5_empty 16 = .ok (.istore_n 1, 1) := by decide +kernel
theorem dX5_empty_17 : decode cX5_empty 17 = .ok (.iload_n 1, 1) := by decide +kernel
theorem dX5_empty_18 : decode cX5_empty 18 = .ok (.bipush 8, 2) := by decide +kernel
theorem dX5_empty_20 : decode cX5_empty 20 = .ok (.if_icmp .ge 30, 3) := by decide +kernel
theorem dX5_empty_23 : decode cX5_empty 23 = .ok (.aload_n 0, 1) := by decide +kernel
theorem dX5_empty_24 : decode cX5_empty 24 = .ok (.getfield 9, 3) := by decide +kernel
theorem dX5_empty_27 : decode cX5_empty 27 = .ok (.iload_n 1, 1) := by decide +kernel
theorem dX5_empty_28 : decode cX5_empty 28 = .ok (.iconst 0, 1) := by decide +kernel
theorem dX5_empty_29 : decode cX5_empty 29 = .ok (.iastore, 1) := by decide +kernel
theorem dX5_empty_30 : decode cX5_empty 30 = .ok (.aload_n 0, 1) := by decide +kernel
theorem dX5_empty_31 : decode cX5_empty 31 = .ok (.getfield 15, 3) := by decide +kernel
theorem dX5_empty_34 : decode cX5_empty 34 = .ok (.iload_n 1, 1) := by decide +kernel
theorem dX5_empty_35 : decode cX5_empty 35 = .ok (.iconst 0, 1) := by decide +kernel
theorem dX5_empty_36 : decode cX5_empty 36 = .ok (.iastore, 1) := by decide +kernel
theorem dX5_empty_37 : decode cX5_empty 37 = .ok (.aload_n 0, 1) := by decide +kernel
theorem dX5_empty_38 : decode cX5_empty 38 = .ok (.getfield 18, 3) := by decide +kernel
theorem dX5_empty_41 : decode cX5_empty 41 = .ok (.iload_n 1, 1) := by decide +kernel
theorem dX5_empty_42 : decode cX5_empty 42 = .ok (.iconst 0, 1) := by decide +kernel
theorem dX5_empty_43 : decode cX5_empty 43 = .ok (.iastore, 1) := by decide +kernel
theorem dX5_empty_44 : decode cX5_empty 44 = .ok (.iinc 1 1, 3) := by decide +kernel
theorem dX5_empty_47 : decode cX5_empty 47 = .ok (.goto (-30), 3) := by decide +kernel
theorem dX5_empty_50 : decode cX5_empty 50 = .ok (.aload_n 0, 1) := by decide +kernel
theorem dX5_empty_51 : decode cX5_empty 51 = .ok (.iconst 0, 1) := by decide +kernel
theorem dX5_empty_52 : decode cX5_empty 52 = .ok (.putfield 31, 3) := by decide +kernel
theorem dX5_empty_55 : decode cX5_empty 55 = .ok (.aload_n 0, 1) := by decide +kernel
theorem dX5_empty_56 : decode cX5_empty 56 = .ok (.iconst 0, 1) := by decide +kernel
theorem dX5_empty_57 : decode cX5_empty 57 = .ok (.putfield 34, 3) := by decide +kernel
theorem dX5_empty_60 : decode cX5_empty 60 = .ok (.aload_n 0, 1) := by decide +kernel
theorem dX5_empty_61 : decode cX5_empty 61 = .ok (.iconst 0, 1) := by decide +kernel
theorem dX5_empty_62 : decode cX5_empty 62 = .ok (.putfield 37, 3) := by decide +kernel
theorem dX5_empty_65 : decode cX5_empty 65 = .ok (.aload_n 0, 1) := by decide +kernel
theorem dX5_empty_66 : decode cX5_empty 66 = .ok (.iconst 0, 1) := by decide +kernel
theorem dX5_empty_67 : decode cX5_empty 67 = .ok (.putfield 40, 3) := by decide +kernel
theorem dX5_empty_70 : decode cX5_empty 70 = .ok (.return_, 1) := by decide +kernel
theorem dX5_place_0 : decode cX5_place 0 = .ok (.iload_n 1, 1) := by decide +kernel
theorem dX5_place_1 : decode cX5_place 1 = .ok (.ifCond .lt 9, 3) := by decide +kernel
theorem dX5_place_4 : decode cX5_place 4 = .ok (.iload_n 1, 1) := by decide +kernel
theorem dX5_place_5 : decode cX5_place 5 = .ok (.bipush 8, 2) := by decide +kernel
theorem dX5_place_7 : decode cX5_place 7 = .ok (.if_icmp .lt 4, 3) := by decide +kernel
theorem dX5_place_10 : decode cX5_place 10 = .ok (.return_, 1) := by decide +kernel
theorem dX5_place_11 : decode cX5_place 11 = .ok (.aload_n 0, 1) := by decide +kernel
theorem dX5_place_12 : decode cX5_place 12 = .ok (.getfield 9, 3) := by decide +kernel
theorem dX5_place_15 : decode cX5_place 15 = .ok (.iload_n 1, 1) := by decide +kernel
theorem dX5_place_16 : decode cX5_place 16 = .ok (.iload_n 2, 1) := by decide +kernel
theorem dX5_place_17 : decode cX5_place 17 = .ok (.iastore, 1) := by decide +kernel
theorem dX5_place_18 : decode cX5_place 18 = .ok (.aload_n 0, 1) := by decide +kernel
theorem dX5_place_19 : decode cX5_place 19 = .ok (.getfield 15, 3) := by decide +kernel
theorem dX5_place_22 : decode cX5_place 22 = .ok (.iload_n 1, 1) := by decide +kernel
theorem dX5_place_23 : decode cX5_place 23 = .ok (.iload_n 3, 1) := by decide +kernel
theorem dX5_place_24 : decode cX5_place 24 = .ok (.iastore, 1) := by decide +kernel
theorem dX5_place_25 : decode cX5_place 25 = .ok (.aload_n 0, 1) := by decide +kernel
theorem dX5_place_26 : decode cX5_place 26 = .ok (.getfield 18, 3) := by decide +kernel
theorem dX5_place_29 : decode cX5_place 29 = .ok (.iload_n 1, 1) := by decide +kernel
theorem dX5_place_30 : decode cX5_place 30 = .ok (.iload 4, 2) := by decide +kernel
theorem dX5_place_32 : decode cX5_place 32 = .ok (.iastore, 1) := by decide +kernel
theorem dX5_place_33 : decode cX5_place 33 = .ok (.aload_n 0, 1) := by decide +kernel
theorem dX5_place_34 : decode cX5_place 34 = .ok (.dup, 1) := by decide +kernel
theorem dX5_place_35 : decode cX5_place 35 = .ok (.getfield 40, 3) := by decide +kernel
theorem dX5_place_38 : decode cX5_place 38 = .ok (.iconst 1, 1) := by decide +kernel
theorem dX5_place_39 : decode cX5_place 39 = .ok (.iload_n 1, 1) := by decide +kernel
theorem dX5_place_40 : decode cX5_place 40 = .ok (.ishl, 1) := by decide +kernel
theorem dX5_place_41 : decode cX5_place 41 = .ok (.ior, 1) := by decide +kernel
theorem dX5_place_42 : decode cX5_place 42 = .ok (.putfield 40, 3) := by decide +kernel
theorem dX5_place_45 : decode cX5_place 45 = .ok (.return_, 1) := by decide +kernel
theorem dX5_isThere_0 : decode cX5_isThere 0 = .ok (.iload_n 1, 1) := by decide +kernel
theorem dX5_isThere_1 : decode cX5_isThere 1 = .ok (.ifCond .lt 25, 3) := by decide +kernel
theorem dX5_isThere_4 : decode cX5_isThere 4 = .ok (.iload_n 1, 1) := by decide +kernel
theorem dX5_isThere_5 : decode cX5_isThere 5 = .ok (.bipush 8, 2) := by decide +kernel
theorem dX5_isThere_7 : decode cX5_isThere 7 = .ok (.if_icmp .ge 19, 3) := by decide +kernel
theorem dX5_isThere_10 : decode cX5_isThere 10 = .ok (.aload_n 0, 1) := by decide +kernel
theorem dX5_isThere_11 : decode cX5_isThere 11 = .ok (.getfield 40, 3) := by decide +kernel
theorem dX5_isThere_14 : decode cX5_isThere 14 = .ok (.iload_n 1, 1) := by decide +kernel
theorem dX5_isThere_15 : decode cX5_isThere 15 = .ok (.invokestatic 43, 3) := by decide +kernel
theorem dX5_isThere_18 : decode cX5_isThere 18 = .ok (.iconst 1, 1) := by decide +kernel
theorem dX5_isThere_19 : decode cX5_isThere 19 = .ok (.if_icmp .ne 7, 3) := by decide +kernel
theorem dX5_isThere_22 : decode cX5_isThere 22 = .ok (.iconst 1, 1) := by decide +kernel
theorem dX5_isThere_23 : decode cX5_isThere 23 = .ok (.goto 4, 3) := by decide +kernel
theorem dX5_isThere_26 : decode cX5_isThere 26 = .ok (.iconst 0, 1) := by decide +kernel
theorem dX5_isThere_27 : decode cX5_isThere 27 = .ok (.ireturn, 1) := by decide +kernel
theorem dX5_loadOf_0 : decode cX5_loadOf 0 = .ok (.iload_n 1, 1) := by decide +kernel
theorem dX5_loadOf_1 : decode cX5_loadOf 1 = .ok (.ifCond .lt 9, 3) := by decide +kernel
theorem dX5_loadOf_4 : decode cX5_loadOf 4 = .ok (.iload_n 1, 1) := by decide +kernel
theorem dX5_loadOf_5 : decode cX5_loadOf 5 = .ok (.bipush 8, 2) := by decide +kernel
theorem dX5_loadOf_7 : decode cX5_loadOf 7 = .ok (.if_icmp .lt 5, 3) := by decide +kernel
theorem dX5_loadOf_10 : decode cX5_loadOf 10 = .ok (.iconst 0, 1) := by decide +kernel
theorem dX5_loadOf_11 : decode cX5_loadOf 11 = .ok (.ireturn, 1) := by decide +kernel
theorem dX5_loadOf_12 : decode cX5_loadOf 12 = .ok (.aload_n 0, 1) := by decide +kernel
theorem dX5_loadOf_13 : decode cX5_loadOf 13 = .ok (.getfield 34, 3) := by decide +kernel
theorem dX5_loadOf_16 : decode cX5_loadOf 16 = .ok (.iload_n 1, 1) := by decide +kernel
theorem dX5_loadOf_17 : decode cX5_loadOf 17 = .ok (.ishr, 1) := by decide +kernel
theorem dX5_loadOf_18 : decode cX5_loadOf 18 = .ok (.iconst 1, 1) := by decide +kernel
theorem dX5_loadOf_19 : decode cX5_loadOf 19 = .ok (.iand, 1) := by decide +kernel
theorem dX5_loadOf_20 : decode cX5_loadOf 20 = .ok (.iconst 1, 1) := by decide +kernel
theorem dX5_loadOf_21 : decode cX5_loadOf 21 = .ok (.if_icmp .ne 14, 3) := by decide +kernel
theorem dX5_loadOf_24 : decode cX5_loadOf 24 = .ok (.aload_n 0, 1) := by decide +kernel
theorem dX5_loadOf_25 : decode cX5_loadOf 25 = .ok (.getfield 9, 3) := by decide +kernel
theorem dX5_loadOf_28 : decode cX5_loadOf 28 = .ok (.iload_n 1, 1) := by decide +kernel
theorem dX5_loadOf_29 : decode cX5_loadOf 29 = .ok (.iaload, 1) := by decide +kernel
theorem dX5_loadOf_30 : decode cX5_loadOf 30 = .ok (.iconst 2, 1) := by decide +kernel
theorem dX5_loadOf_31 : decode cX5_loadOf 31 = .ok (.idiv, 1) := by decide +kernel
theorem dX5_loadOf_32 : decode cX5_loadOf 32 = .ok (.goto 9, 3) := by decide +kernel
theorem dX5_loadOf_35 : decode cX5_loadOf 35 = .ok (.aload_n 0, 1) := by decide +kernel
theorem dX5_loadOf_36 : decode cX5_loadOf 36 = .ok (.getfield 9, 3) := by decide +kernel
theorem dX5_loadOf_39 : decode cX5_loadOf 39 = .ok (.iload_n 1, 1) := by decide +kernel
theorem dX5_loadOf_40 : decode cX5_loadOf 40 = .ok (.iaload, 1) := by decide +kernel
theorem dX5_loadOf_41 : decode cX5_loadOf 41 = .ok (.ireturn, 1) := by decide +kernel
theorem dX5_pass_0 : decode cX5_pass 0 = .ok (.aload_n 0, 1) := by decide +kernel
theorem dX5_pass_1 : decode cX5_pass 1 = .ok (.dup, 1) := by decide +kernel
theorem dX5_pass_2 : decode cX5_pass 2 = .ok (.getfield 21, 3) := by decide +kernel
theorem dX5_pass_5 : decode cX5_pass 5 = .ok (.iconst 1, 1) := by decide +kernel
theorem dX5_pass_6 : decode cX5_pass 6 = .ok (.iadd, 1) := by decide +kernel
theorem dX5_pass_7 : decode cX5_pass 7 = .ok (.putfield 21, 3) := by decide +kernel
theorem dX5_pass_10 : decode cX5_pass 10 = .ok (.aload_n 0, 1) := by decide +kernel
theorem dX5_pass_11 : decode cX5_pass 11 = .ok (.iconst 0, 1) := by decide +kernel
theorem dX5_pass_12 : decode cX5_pass 12 = .ok (.putfield 47, 3) := by decide +kernel
theorem dX5_pass_15 : decode cX5_pass 15 = .ok (.iload_n 1, 1) := by decide +kernel
theorem dX5_pass_16 : decode cX5_pass 16 = .ok (.istore_n 3, 1) := by decide +kernel
theorem dX5_pass_17 : decode cX5_pass 17 = .ok (.iconst 0, 1) := by decide +kernel
theorem dX5_pass_18 : decode cX5_pass 18 = .ok (.istore 4, 2) := by decide +kernel
theorem dX5_pass_20 : decode cX5_pass 20 = .ok (.iload 4, 2) := by decide +kernel
theorem dX5_pass_22 : decode cX5_pass 22 = .ok (.bipush 8, 2) := by decide +kernel
theorem dX5_pass_24 : decode cX5_pass 24 = .ok (.if_icmp .ge 52, 3) := by decide +kernel
theorem dX5_pass_27 : decode cX5_pass 27 = .ok (.aload_n 0, 1) := by decide +kernel
theorem dX5_pass_28 : decode cX5_pass 28 = .ok (.iload 4, 2) := by decide +kernel
theorem dX5_pass_30 : decode cX5_pass 30 = .ok (.invokevirtual 50, 3) := by decide +kernel
theorem dX5_pass_33 : decode cX5_pass 33 = .ok (.ifCond .eq 37, 3) := by decide +kernel
theorem dX5_pass_36 : decode cX5_pass 36 = .ok (.aload_n 0, 1) := by decide +kernel
theorem dX5_pass_37 : decode cX5_pass 37 = .ok (.getfield 18, 3) := by decide +kernel
theorem dX5_pass_40 : decode cX5_pass 40 = .ok (.iload 4, 2) := by decide +kernel
theorem dX5_pass_42 : decode cX5_pass 42 = .ok (.dup2, 1) := by decide +kernel
theorem dX5_pass_43 : decode cX5_pass 43 = .ok (.iaload, 1) := by decide +kernel
theorem dX5_pass_44 : decode cX5_pass 44 = .ok (.iconst 1, 1) := by decide +kernel
theorem dX5_pass_45 : decode cX5_pass 45 = .ok (.isub, 1) := by decide +kernel
theorem dX5_pass_46 : decode cX5_pass 46 = .ok (.iastore, 1) := by decide +kernel
theorem dX5_pass_47 : decode cX5_pass 47 = .ok (.aload_n 0, 1) := by decide +kernel
theorem dX5_pass_48 : decode cX5_pass 48 = .ok (.getfield 18, 3) := by decide +kernel
theorem dX5_pass_51 : decode cX5_pass 51 = .ok (.iload 4, 2) := by decide +kernel
theorem dX5_pass_53 : decode cX5_pass 53 = .ok (.iaload, 1) := by decide +kernel
theorem dX5_pass_54 : decode cX5_pass 54 = .ok (.ifCond .gt 16, 3) := by decide +kernel
theorem dX5_pass_57 : decode cX5_pass 57 = .ok (.iload_n 3, 1) := by decide +kernel
theorem dX5_pass_58 : decode cX5_pass 58 = .ok (.ifCond .le 12, 3) := by decide +kernel
theorem dX5_pass_61 : decode cX5_pass 61 = .ok (.iinc 3 (-1), 3) := by decide +kernel
theorem dX5_pass_64 : decode cX5_pass 64 = .ok (.aload_n 0, 1) := by decide +kernel
theorem dX5_pass_65 : decode cX5_pass 65 = .ok (.iload 4, 2) := by decide +kernel
theorem dX5_pass_67 : decode cX5_pass 67 = .ok (.invokevirtual 54, 3) := by decide +kernel
theorem dX5_pass_70 : decode cX5_pass 70 = .ok (.iinc 4 1, 3) := by decide +kernel
theorem dX5_pass_73 : decode cX5_pass 73 = .ok (.goto (-53), 3) := by decide +kernel
theorem dX5_pass_76 : decode cX5_pass 76 = .ok (.aload_n 0, 1) := by decide +kernel
theorem dX5_pass_77 : decode cX5_pass 77 = .ok (.iload_n 2, 1) := by decide +kernel
theorem dX5_pass_78 : decode cX5_pass 78 = .ok (.aload_n 0, 1) := by decide +kernel
theorem dX5_pass_79 : decode cX5_pass 79 = .ok (.getfield 25, 3) := by decide +kernel
theorem dX5_pass_82 : decode cX5_pass 82 = .ok (.invokestatic 58, 3) := by decide +kernel
theorem dX5_pass_85 : decode cX5_pass 85 = .ok (.putfield 63, 3) := by decide +kernel
theorem dX5_pass_88 : decode cX5_pass 88 = .ok (.aload_n 0, 1) := by decide +kernel
theorem dX5_pass_89 : decode cX5_pass 89 = .ok (.dup, 1) := by decide +kernel
theorem dX5_pass_90 : decode cX5_pass 90 = .ok (.getfield 25, 3) := by decide +kernel
theorem dX5_pass_93 : decode cX5_pass 93 = .ok (.aload_n 0, 1) := by decide +kernel
theorem dX5_pass_94 : decode cX5_pass 94 = .ok (.getfield 63, 3) := by decide +kernel
theorem dX5_pass_97 : decode cX5_pass 97 = .ok (.isub, 1) := by decide +kernel
theorem dX5_pass_98 : decode cX5_pass 98 = .ok (.putfield 25, 3) := by decide +kernel
theorem dX5_pass_101 : decode cX5_pass 101 = .ok (.return_, 1) := by decide +kernel
theorem dX5_comes_0 : decode cX5_comes 0 = .ok (.iload_n 1, 1) := by decide +kernel
theorem dX5_comes_1 : decode cX5_comes 1 = .ok (.ifCond .lt 9, 3) := by decide +kernel
theorem dX5_comes_4 : decode cX5_comes 4 = .ok (.iload_n 1, 1) := by decide +kernel
theorem dX5_comes_5 : decode cX5_comes 5 = .ok (.bipush 8, 2) := by decide +kernel
theorem dX5_comes_7 : decode cX5_comes 7 = .ok (.if_icmp .lt 4, 3) := by decide +kernel
theorem dX5_comes_10 : decode cX5_comes 10 = .ok (.return_, 1) := by decide +kernel
theorem dX5_comes_11 : decode cX5_comes 11 = .ok (.aload_n 0, 1) := by decide +kernel
theorem dX5_comes_12 : decode cX5_comes 12 = .ok (.getfield 31, 3) := by decide +kernel
theorem dX5_comes_15 : decode cX5_comes 15 = .ok (.iload_n 1, 1) := by decide +kernel
theorem dX5_comes_16 : decode cX5_comes 16 = .ok (.invokestatic 43, 3) := by decide +kernel
theorem dX5_comes_19 : decode cX5_comes 19 = .ok (.iconst 1, 1) := by decide +kernel
theorem dX5_comes_20 : decode cX5_comes 20 = .ok (.if_icmp .ne 24, 3) := by decide +kernel
theorem dX5_comes_23 : decode cX5_comes 23 = .ok (.aload_n 0, 1) := by decide +kernel
theorem dX5_comes_24 : decode cX5_comes 24 = .ok (.iconst 0, 1) := by decide +kernel
theorem dX5_comes_25 : decode cX5_comes 25 = .ok (.aload_n 0, 1) := by decide +kernel
theorem dX5_comes_26 : decode cX5_comes 26 = .ok (.getfield 25, 3) := by decide +kernel
theorem dX5_comes_29 : decode cX5_comes 29 = .ok (.aload_n 0, 1) := by decide +kernel
theorem dX5_comes_30 : decode cX5_comes 30 = .ok (.iload_n 1, 1) := by decide +kernel
theorem dX5_comes_31 : decode cX5_comes 31 = .ok (.invokevirtual 66, 3) := by decide +kernel
theorem dX5_comes_34 : decode cX5_comes 34 = .ok (.isub, 1) := by decide +kernel
theorem dX5_comes_35 : decode cX5_comes 35 = .ok (.invokestatic 70, 3) := by decide +kernel
theorem dX5_comes_38 : decode cX5_comes 38 = .ok (.putfield 25, 3) := by decide +kernel
theorem dX5_comes_41 : decode cX5_comes 41 = .ok (.goto 22, 3) := by decide +kernel
theorem dX5_comes_44 : decode cX5_comes 44 = .ok (.aload_n 0, 1) := by decide +kernel
theorem dX5_comes_45 : decode cX5_comes 45 = .ok (.ldc 73, 2) := by decide +kernel
theorem dX5_comes_47 : decode cX5_comes 47 = .ok (.aload_n 0, 1) := by decide +kernel
theorem dX5_comes_48 : decode cX5_comes 48 = .ok (.getfield 25, 3) := by decide +kernel
theorem dX5_comes_51 : decode cX5_comes 51 = .ok (.aload_n 0, 1) := by decide +kernel
theorem dX5_comes_52 : decode cX5_comes 52 = .ok (.iload_n 1, 1) := by decide +kernel
theorem dX5_comes_53 : decode cX5_comes 53 = .ok (.invokevirtual 66, 3) := by decide +kernel
theorem dX5_comes_56 : decode cX5_comes 56 = .ok (.iadd, 1) := by decide +kernel
theorem dX5_comes_57 : decode cX5_comes 57 = .ok (.invokestatic 58, 3) := by decide +kernel
theorem dX5_comes_60 : decode cX5_comes 60 = .ok (.putfield 25, 3) := by decide +kernel
theorem dX5_comes_63 : decode cX5_comes 63 = .ok (.aload_n 0, 1) := by decide +kernel
theorem dX5_comes_64 : decode cX5_comes 64 = .ok (.getfield 18, 3) := by decide +kernel
theorem dX5_comes_67 : decode cX5_comes 67 = .ok (.iload_n 1, 1) := by decide +kernel
theorem dX5_comes_68 : decode cX5_comes 68 = .ok (.aload_n 0, 1) := by decide +kernel
theorem dX5_comes_69 : decode cX5_comes 69 = .ok (.getfield 15, 3) := by decide +kernel
theorem dX5_comes_72 : decode cX5_comes 72 = .ok (.iload_n 1, 1) := by decide +kernel
theorem dX5_comes_73 : decode cX5_comes 73 = .ok (.iaload, 1) := by decide +kernel
theorem dX5_comes_74 : decode cX5_comes 74 = .ok (.iastore, 1) := by decide +kernel
theorem dX5_comes_75 : decode cX5_comes 75 = .ok (.aload_n 0, 1) := by decide +kernel
theorem dX5_comes_76 : decode cX5_comes 76 = .ok (.dup, 1) := by decide +kernel
theorem dX5_comes_77 : decode cX5_comes 77 = .ok (.getfield 37, 3) := by decide +kernel
theorem dX5_comes_80 : decode cX5_comes 80 = .ok (.iconst 1, 1) := by decide +kernel
theorem dX5_comes_81 : decode cX5_comes 81 = .ok (.iload_n 1, 1) := by decide +kernel
theorem dX5_comes_82 : decode cX5_comes 82 = .ok (.ishl, 1) := by decide +kernel
theorem dX5_comes_83 : decode cX5_comes 83 = .ok (.ior, 1) := by decide +kernel
theorem dX5_comes_84 : decode cX5_comes 84 = .ok (.putfield 37, 3) := by decide +kernel
theorem dX5_comes_87 : decode cX5_comes 87 = .ok (.aload_n 0, 1) := by decide +kernel
theorem dX5_comes_88 : decode cX5_comes 88 = .ok (.dup, 1) := by decide +kernel
theorem dX5_comes_89 : decode cX5_comes 89 = .ok (.getfield 47, 3) := by decide +kernel
theorem dX5_comes_92 : decode cX5_comes 92 = .ok (.iconst 1, 1) := by decide +kernel
theorem dX5_comes_93 : decode cX5_comes 93 = .ok (.iload_n 1, 1) := by decide +kernel
theorem dX5_comes_94 : decode cX5_comes 94 = .ok (.ishl, 1) := by decide +kernel
theorem dX5_comes_95 : decode cX5_comes 95 = .ok (.ior, 1) := by decide +kernel
theorem dX5_comes_96 : decode cX5_comes 96 = .ok (.putfield 47, 3) := by decide +kernel
theorem dX5_comes_99 : decode cX5_comes 99 = .ok (.return_, 1) := by decide +kernel
theorem dX5_firstFree_0 : decode cX5_firstFree 0 = .ok (.iconst 0, 1) := by decide +kernel
theorem dX5_firstFree_1 : decode cX5_firstFree 1 = .ok (.istore_n 1, 1) := by decide +kernel
theorem dX5_firstFree_2 : decode cX5_firstFree 2 = .ok (.iload_n 1, 1) := by decide +kernel
theorem dX5_firstFree_3 : decode cX5_firstFree 3 = .ok (.bipush 8, 2) := by decide +kernel
theorem dX5_firstFree_5 : decode cX5_firstFree 5 = .ok (.if_icmp .ge 19, 3) := by decide +kernel
theorem dX5_firstFree_8 : decode cX5_firstFree 8 = .ok (.aload_n 0, 1) := by decide +kernel
theorem dX5_firstFree_9 : decode cX5_firstFree 9 = .ok (.iload_n 1, 1) := by decide +kernel
theorem dX5_firstFree_10 : decode cX5_firstFree 10 = .ok (.invokevirtual 50, 3) := by decide +kernel
theorem dX5_firstFree_13 : decode cX5_firstFree 13 = .ok (.ifCond .ne 5, 3) := by decide +kernel
theorem dX5_firstFree_16 : decode cX5_firstFree 16 = .ok (.iload_n 1, 1) := by decide +kernel
theorem dX5_firstFree_17 : decode cX5_firstFree 17 = .ok (.ireturn, 1) := by decide +kernel
theorem dX5_firstFree_18 : decode cX5_firstFree 18 = .ok (.iinc 1 1, 3) := by decide +kernel
theorem dX5_firstFree_21 : decode cX5_firstFree 21 = .ok (.goto (-19), 3) := by decide +kernel
theorem dX5_firstFree_24 : decode cX5_firstFree 24 = .ok (.bipush (-9), 2) := by decide +kernel
theorem dX5_firstFree_26 : decode cX5_firstFree 26 = .ok (.ireturn, 1) := by decide +kernel
theorem dX5_canSplit_0 : decode cX5_canSplit 0 = .ok (.aload_n 0, 1) := by decide +kernel
theorem dX5_canSplit_1 : decode cX5_canSplit 1 = .ok (.iload_n 1, 1) := by decide +kernel
theorem dX5_canSplit_2 : decode cX5_canSplit 2 = .ok (.invokevirtual 50, 3) := by decide +kernel
theorem dX5_canSplit_5 : decode cX5_canSplit 5 = .ok (.ifCond .eq 24, 3) := by decide +kernel
theorem dX5_canSplit_8 : decode cX5_canSplit 8 = .ok (.aload_n 0, 1) := by decide +kernel
theorem dX5_canSplit_9 : decode cX5_canSplit 9 = .ok (.getfield 9, 3) := by decide +kernel
theorem dX5_canSplit_12 : decode cX5_canSplit 12 = .ok (.iload_n 1, 1) := by decide +kernel
theorem dX5_canSplit_13 : decode cX5_canSplit 13 = .ok (.iaload, 1) := by decide +kernel
theorem dX5_canSplit_14 : decode cX5_canSplit 14 = .ok (.iconst 1, 1) := by decide +kernel
theorem dX5_canSplit_15 : decode cX5_canSplit 15 = .ok (.if_icmp .le 10, 3) := by decide +kernel
theorem dX5_canSplit_18 : decode cX5_canSplit 18 = .ok (.aload_n 0, 1) := by decide +kernel
theorem dX5_canSplit_19 : decode cX5_canSplit 19 = .ok (.invokevirtual 74, 3) := by decide +kernel
theorem dX5_canSplit_22 : decode cX5_canSplit 22 = .ok (.ifCond .lt 7, 3) := by decide +kernel
theorem dX5_canSplit_25 : decode cX5_canSplit 25 = .ok (.iconst 1, 1) := by decide +kernel
theorem dX5_canSplit_26 : decode cX5_canSplit 26 = .ok (.goto 4, 3) := by decide +kernel
theorem dX5_canSplit_29 : decode cX5_canSplit 29 = .ok (.iconst 0, 1) := by decide +kernel
theorem dX5_canSplit_30 : decode cX5_canSplit 30 = .ok (.ireturn, 1) := by decide +kernel
theorem dX5_split_0 : decode cX5_split 0 = .ok (.aload_n 0, 1) := by decide +kernel
theorem dX5_split_1 : decode cX5_split 1 = .ok (.iload_n 1, 1) := by decide +kernel
theorem dX5_split_2 : decode cX5_split 2 = .ok (.invokevirtual 78, 3) := by decide +kernel
theorem dX5_split_5 : decode cX5_split 5 = .ok (.ifCond .ne 6, 3) := by decide +kernel
theorem dX5_split_8 : decode cX5_split 8 = .ok (.bipush (-3), 2) := by decide +kernel
theorem dX5_split_10 : decode cX5_split 10 = .ok (.ireturn, 1) := by decide +kernel
theorem dX5_split_11 : decode cX5_split 11 = .ok (.aload_n 0, 1) := by decide +kernel
theorem dX5_split_12 : decode cX5_split 12 = .ok (.getfield 9, 3) := by decide +kernel
theorem dX5_split_15 : decode cX5_split 15 = .ok (.iload_n 1, 1) := by decide +kernel
theorem dX5_split_16 : decode cX5_split 16 = .ok (.iaload, 1) := by decide +kernel
theorem dX5_split_17 : decode cX5_split 17 = .ok (.iconst 1, 1) := by decide +kernel
theorem dX5_split_18 : decode cX5_split 18 = .ok (.if_icmp .gt 20, 3) := by decide +kernel
theorem dX5_split_21 : decode cX5_split 21 = .ok (.aload_n 0, 1) := by decide +kernel
theorem dX5_split_22 : decode cX5_split 22 = .ok (.dup, 1) := by decide +kernel
theorem dX5_split_23 : decode cX5_split 23 = .ok (.getfield 40, 3) := by decide +kernel
theorem dX5_split_26 : decode cX5_split 26 = .ok (.iconst 1, 1) := by decide +kernel
theorem dX5_split_27 : decode cX5_split 27 = .ok (.iload_n 1, 1) := by decide +kernel
theorem dX5_split_28 : decode cX5_split 28 = .ok (.ishl, 1) := by decide +kernel
theorem dX5_split_29 : decode cX5_split 29 = .ok (.iconst (-1), 1) := by decide +kernel
theorem dX5_split_30 : decode cX5_split 30 = .ok (.ixor, 1) := by decide +kernel
theorem dX5_split_31 : decode cX5_split 31 = .ok (.iand, 1) := by decide +kernel
theorem dX5_split_32 : decode cX5_split 32 = .ok (.putfield 40, 3) := by decide +kernel
theorem dX5_split_35 : decode cX5_split 35 = .ok (.bipush (-9), 2) := by decide +kernel
theorem dX5_split_37 : decode cX5_split 37 = .ok (.ireturn, 1) := by decide +kernel
theorem dX5_split_38 : decode cX5_split 38 = .ok (.aload_n 0, 1) := by decide +kernel
theorem dX5_split_39 : decode cX5_split 39 = .ok (.invokevirtual 74, 3) := by decide +kernel
theorem dX5_split_42 : decode cX5_split 42 = .ok (.istore_n 2, 1) := by decide +kernel
theorem dX5_split_43 : decode cX5_split 43 = .ok (.aload_n 0, 1) := by decide +kernel
theorem dX5_split_44 : decode cX5_split 44 = .ok (.getfield 9, 3) := by decide +kernel
theorem dX5_split_47 : decode cX5_split 47 = .ok (.iload_n 1, 1) := by decide +kernel
theorem dX5_split_48 : decode cX5_split 48 = .ok (.aload_n 0, 1) := by decide +kernel
theorem dX5_split_49 : decode cX5_split 49 = .ok (.getfield 9, 3) := by decide +kernel
theorem dX5_split_52 : decode cX5_split 52 = .ok (.iload_n 1, 1) := by decide +kernel
theorem dX5_split_53 : decode cX5_split 53 = .ok (.iaload, 1) := by decide +kernel
theorem dX5_split_54 : decode cX5_split 54 = .ok (.iconst 2, 1) := by decide +kernel
theorem dX5_split_55 : decode cX5_split 55 = .ok (.idiv, 1) := by decide +kernel
theorem dX5_split_56 : decode cX5_split 56 = .ok (.iastore, 1) := by decide +kernel
theorem dX5_split_57 : decode cX5_split 57 = .ok (.aload_n 0, 1) := by decide +kernel
theorem dX5_split_58 : decode cX5_split 58 = .ok (.getfield 15, 3) := by decide +kernel
theorem dX5_split_61 : decode cX5_split 61 = .ok (.iload_n 1, 1) := by decide +kernel
theorem dX5_split_62 : decode cX5_split 62 = .ok (.bipush 40, 2) := by decide +kernel
theorem dX5_split_64 : decode cX5_split 64 = .ok (.iconst 2, 1) := by decide +kernel
theorem dX5_split_65 : decode cX5_split 65 = .ok (.aload_n 0, 1) := by decide +kernel
theorem dX5_split_66 : decode cX5_split 66 = .ok (.getfield 15, 3) := by decide +kernel
theorem dX5_split_69 : decode cX5_split 69 = .ok (.iload_n 1, 1) := by decide +kernel
theorem dX5_split_70 : decode cX5_split 70 = .ok (.iaload, 1) := by decide +kernel
theorem dX5_split_71 : decode cX5_split 71 = .ok (.imul, 1) := by decide +kernel
theorem dX5_split_72 : decode cX5_split 72 = .ok (.invokestatic 58, 3) := by decide +kernel
theorem dX5_split_75 : decode cX5_split 75 = .ok (.iastore, 1) := by decide +kernel
theorem dX5_split_76 : decode cX5_split 76 = .ok (.aload_n 0, 1) := by decide +kernel
theorem dX5_split_77 : decode cX5_split 77 = .ok (.iload_n 2, 1) := by decide +kernel
theorem dX5_split_78 : decode cX5_split 78 = .ok (.aload_n 0, 1) := by decide +kernel
theorem dX5_split_79 : decode cX5_split 79 = .ok (.getfield 9, 3) := by decide +kernel
theorem dX5_split_82 : decode cX5_split 82 = .ok (.iload_n 1, 1) := by decide +kernel
theorem dX5_split_83 : decode cX5_split 83 = .ok (.iaload, 1) := by decide +kernel
theorem dX5_split_84 : decode cX5_split 84 = .ok (.aload_n 0, 1) := by decide +kernel
theorem dX5_split_85 : decode cX5_split 85 = .ok (.getfield 15, 3) := by decide +kernel
theorem dX5_split_88 : decode cX5_split 88 = .ok (.iload_n 1, 1) := by decide +kernel
theorem dX5_split_89 : decode cX5_split 89 = .ok (.iaload, 1) := by decide +kernel
theorem dX5_split_90 : decode cX5_split 90 = .ok (.aload_n 0, 1) := by decide +kernel
theorem dX5_split_91 : decode cX5_split 91 = .ok (.getfield 18, 3) := by decide +kernel
theorem dX5_split_94 : decode cX5_split 94 = .ok (.iload_n 1, 1) := by decide +kernel
theorem dX5_split_95 : decode cX5_split 95 = .ok (.iaload, 1) := by decide +kernel
theorem dX5_split_96 : decode cX5_split 96 = .ok (.invokevirtual 81, 3) := by decide +kernel
theorem dX5_split_99 : decode cX5_split 99 = .ok (.aload_n 0, 1) := by decide +kernel
theorem dX5_split_100 : decode cX5_split 100 = .ok (.aload_n 0, 1) := by decide +kernel
theorem dX5_split_101 : decode cX5_split 101 = .ok (.getfield 31, 3) := by decide +kernel
theorem dX5_split_104 : decode cX5_split 104 = .ok (.iload_n 1, 1) := by decide +kernel
theorem dX5_split_105 : decode cX5_split 105 = .ok (.iload_n 2, 1) := by decide +kernel
theorem dX5_split_106 : decode cX5_split 106 = .ok (.invokestatic 85, 3) := by decide +kernel
theorem dX5_split_109 : decode cX5_split 109 = .ok (.putfield 31, 3) := by decide +kernel
theorem dX5_split_112 : decode cX5_split 112 = .ok (.aload_n 0, 1) := by decide +kernel
theorem dX5_split_113 : decode cX5_split 113 = .ok (.aload_n 0, 1) := by decide +kernel
theorem dX5_split_114 : decode cX5_split 114 = .ok (.getfield 34, 3) := by decide +kernel
theorem dX5_split_117 : decode cX5_split 117 = .ok (.iload_n 1, 1) := by decide +kernel
theorem dX5_split_118 : decode cX5_split 118 = .ok (.iload_n 2, 1) := by decide +kernel
theorem dX5_split_119 : decode cX5_split 119 = .ok (.invokestatic 85, 3) := by decide +kernel
theorem dX5_split_122 : decode cX5_split 122 = .ok (.putfield 34, 3) := by decide +kernel
theorem dX5_split_125 : decode cX5_split 125 = .ok (.aload_n 0, 1) := by decide +kernel
theorem dX5_split_126 : decode cX5_split 126 = .ok (.aload_n 0, 1) := by decide +kernel
theorem dX5_split_127 : decode cX5_split 127 = .ok (.getfield 37, 3) := by decide +kernel
theorem dX5_split_130 : decode cX5_split 130 = .ok (.iload_n 1, 1) := by decide +kernel
theorem dX5_split_131 : decode cX5_split 131 = .ok (.iload_n 2, 1) := by decide +kernel
theorem dX5_split_132 : decode cX5_split 132 = .ok (.invokestatic 85, 3) := by decide +kernel
theorem dX5_split_135 : decode cX5_split 135 = .ok (.putfield 37, 3) := by decide +kernel
theorem dX5_split_138 : decode cX5_split 138 = .ok (.iload_n 2, 1) := by decide +kernel
theorem dX5_split_139 : decode cX5_split 139 = .ok (.ireturn, 1) := by decide +kernel
theorem dX5_alike_0 : decode cX5_alike 0 = .ok (.iload_n 0, 1) := by decide +kernel
theorem dX5_alike_1 : decode cX5_alike 1 = .ok (.iconst 1, 1) := by decide +kernel
theorem dX5_alike_2 : decode cX5_alike 2 = .ok (.iload_n 2, 1) := by decide +kernel
theorem dX5_alike_3 : decode cX5_alike 3 = .ok (.ishl, 1) := by decide +kernel
theorem dX5_alike_4 : decode cX5_alike 4 = .ok (.iconst (-1), 1) := by decide +kernel
theorem dX5_alike_5 : decode cX5_alike 5 = .ok (.ixor, 1) := by decide +kernel
theorem dX5_alike_6 : decode cX5_alike 6 = .ok (.iand, 1) := by decide +kernel
theorem dX5_alike_7 : decode cX5_alike 7 = .ok (.iload_n 0, 1) := by decide +kernel
theorem dX5_alike_8 : decode cX5_alike 8 = .ok (.iload_n 1, 1) := by decide +kernel
theorem dX5_alike_9 : decode cX5_alike 9 = .ok (.invokestatic 43, 3) := by decide +kernel
theorem dX5_alike_12 : decode cX5_alike 12 = .ok (.iload_n 2, 1) := by decide +kernel
theorem dX5_alike_13 : decode cX5_alike 13 = .ok (.ishl, 1) := by decide +kernel
theorem dX5_alike_14 : decode cX5_alike 14 = .ok (.ior, 1) := by decide +kernel
theorem dX5_alike_15 : decode cX5_alike 15 = .ok (.ireturn, 1) := by decide +kernel
theorem dX5_comings_0 : decode cX5_comings 0 = .ok (.aload_n 0, 1) := by decide +kernel
theorem dX5_comings_1 : decode cX5_comings 1 = .ok (.iload_n 1, 1) := by decide +kernel
theorem dX5_comings_2 : decode cX5_comings 2 = .ok (.invokevirtual 50, 3) := by decide +kernel
theorem dX5_comings_5 : decode cX5_comings 5 = .ok (.ifCond .eq 13, 3) := by decide +kernel
theorem dX5_comings_8 : decode cX5_comings 8 = .ok (.aload_n 0, 1) := by decide +kernel
theorem dX5_comings_9 : decode cX5_comings 9 = .ok (.getfield 15, 3) := by decide +kernel
theorem dX5_comings_12 : decode cX5_comings 12 = .ok (.iload_n 1, 1) := by decide +kernel
theorem dX5_comings_13 : decode cX5_comings 13 = .ok (.iaload, 1) := by decide +kernel
theorem dX5_comings_14 : decode cX5_comings 14 = .ok (.iconst 1, 1) := by decide +kernel
theorem dX5_comings_15 : decode cX5_comings 15 = .ok (.if_icmp .ge 5, 3) := by decide +kernel
theorem dX5_comings_18 : decode cX5_comings 18 = .ok (.iconst 0, 1) := by decide +kernel
theorem dX5_comings_19 : decode cX5_comings 19 = .ok (.ireturn, 1) := by decide +kernel
theorem dX5_comings_20 : decode cX5_comings 20 = .ok (.iconst 1, 1) := by decide +kernel
theorem dX5_comings_21 : decode cX5_comings 21 = .ok (.aload_n 0, 1) := by decide +kernel
theorem dX5_comings_22 : decode cX5_comings 22 = .ok (.getfield 18, 3) := by decide +kernel
theorem dX5_comings_25 : decode cX5_comings 25 = .ok (.iload_n 1, 1) := by decide +kernel
theorem dX5_comings_26 : decode cX5_comings 26 = .ok (.iaload, 1) := by decide +kernel
theorem dX5_comings_27 : decode cX5_comings 27 = .ok (.invokestatic 70, 3) := by decide +kernel
theorem dX5_comings_30 : decode cX5_comings 30 = .ok (.istore_n 3, 1) := by decide +kernel
theorem dX5_comings_31 : decode cX5_comings 31 = .ok (.iload_n 2, 1) := by decide +kernel
theorem dX5_comings_32 : decode cX5_comings 32 = .ok (.iload_n 3, 1) := by decide +kernel
theorem dX5_comings_33 : decode cX5_comings 33 = .ok (.if_icmp .ge 7, 3) := by decide +kernel
theorem dX5_comings_36 : decode cX5_comings 36 = .ok (.iconst 0, 1) := by decide +kernel
theorem dX5_comings_37 : decode cX5_comings 37 = .ok (.goto 15, 3) := by decide +kernel
theorem dX5_comings_40 : decode cX5_comings 40 = .ok (.iconst 1, 1) := by decide +kernel
theorem dX5_comings_41 : decode cX5_comings 41 = .ok (.iload_n 2, 1) := by decide +kernel
theorem dX5_comings_42 : decode cX5_comings 42 = .ok (.iload_n 3, 1) := by decide +kernel
theorem dX5_comings_43 : decode cX5_comings 43 = .ok (.isub, 1) := by decide +kernel
theorem dX5_comings_44 : decode cX5_comings 44 = .ok (.aload_n 0, 1) := by decide +kernel
theorem dX5_comings_45 : decode cX5_comings 45 = .ok (.getfield 15, 3) := by decide +kernel
theorem dX5_comings_48 : decode cX5_comings 48 = .ok (.iload_n 1, 1) := by decide +kernel
theorem dX5_comings_49 : decode cX5_comings 49 = .ok (.iaload, 1) := by decide +kernel
theorem dX5_comings_50 : decode cX5_comings 50 = .ok (.idiv, 1) := by decide +kernel
theorem dX5_comings_51 : decode cX5_comings 51 = .ok (.iadd, 1) := by decide +kernel
theorem dX5_comings_52 : decode cX5_comings 52 = .ok (.ireturn, 1) := by decide +kernel
theorem dX6_init_0 : decode cX6_init 0 = .ok (.aload_n 0, 1) := by decide +kernel
theorem dX6_init_1 : decode cX6_init 1 = .ok (.invokespecial 1, 3) := by decide +kernel
theorem dX6_init_4 : decode cX6_init 4 = .ok (.aload_n 0, 1) := by decide +kernel
theorem dX6_init_5 : decode cX6_init 5 = .ok (.bipush 8, 2) := by decide +kernel
theorem dX6_init_7 : decode cX6_init 7 = .ok (.anewarray 9, 3) := by decide +kernel
theorem dX6_init_10 : decode cX6_init 10 = .ok (.putfield 11, 3) := by decide +kernel
theorem dX6_init_13 : decode cX6_init 13 = .ok (.iconst 0, 1) := by decide +kernel
theorem dX6_init_14 : decode cX6_init 14 = .ok (.istore_n 1, 1) := by decide +kernel
theorem dX6_init_15 : decode cX6_init 15 = .ok (.iload_n 1, 1) := by decide +kernel
theorem dX6_init_16 : decode cX6_init 16 = .ok (.bipush 8, 2) := by decide +kernel
theorem dX6_init_18 : decode cX6_init 18 = .ok (.if_icmp .ge 22, 3) := by decide +kernel
theorem dX6_init_21 : decode cX6_init 21 = .ok (.aload_n 0, 1) := by decide +kernel
theorem dX6_init_22 : decode cX6_init 22 = .ok (.getfield 11, 3) := by decide +kernel
theorem dX6_init_25 : decode cX6_init 25 = .ok (.iload_n 1, 1) := by decide +kernel
theorem dX6_init_26 : decode cX6_init 26 = .ok (.new 9, 3) := by decide +kernel
theorem dX6_init_29 : decode cX6_init 29 = .ok (.dup, 1) := by decide +kernel
theorem dX6_init_30 : decode cX6_init 30 = .ok (.invokespecial 15, 3) := by decide +kernel
theorem dX6_init_33 : decode cX6_init 33 = .ok (.aastore, 1) := by decide +kernel
theorem dX6_init_34 : decode cX6_init 34 = .ok (.iinc 1 1, 3) := by decide +kernel
theorem dX6_init_37 : decode cX6_init 37 = .ok (.goto (-22), 3) := by decide +kernel
theorem dX6_init_40 : decode cX6_init 40 = .ok (.return_, 1) := by decide +kernel
theorem dX6_remember_0 : decode cX6_remember 0 = .ok (.aload_n 0, 1) := by decide +kernel
theorem dX6_remember_1 : decode cX6_remember 1 = .ok (.aload_n 0, 1) := by decide +kernel
theorem dX6_remember_2 : decode cX6_remember 2 = .ok (.getfield 16, 3) := by decide +kernel
theorem dX6_remember_5 : decode cX6_remember 5 = .ok (.iconst 1, 1) := by decide +kernel
theorem dX6_remember_6 : decode cX6_remember 6 = .ok (.iadd, 1) := by decide +kernel
theorem dX6_remember_7 : decode cX6_remember 7 = .ok (.bipush 8, 2) := by decide +kernel
theorem dX6_remember_9 : decode cX6_remember 9 = .ok (.invokestatic 20, 3) := by decide +kernel
theorem dX6_remember_12 : decode cX6_remember 12 = .ok (.putfield 16, 3) := by decide +kernel
theorem dX6_remember_15 : decode cX6_remember 15 = .ok (.aload_n 0, 1) := by decide +kernel
theorem dX6_remember_16 : decode cX6_remember 16 = .ok (.getfield 11, 3) := by decide +kernel
theorem dX6_remember_19 : decode cX6_remember 19 = .ok (.aload_n 0, 1) := by decide +kernel
theorem dX6_remember_20 : decode cX6_remember 20 = .ok (.getfield 16, 3) := by decide +kernel
theorem dX6_remember_23 : decode cX6_remember 23 = .ok (.aaload, 1) := by decide +kernel
theorem dX6_remember_24 : decode cX6_remember 24 = .ok (.astore_n 2, 1) := by decide +kernel
theorem dX6_remember_25 : decode cX6_remember 25 = .ok (.aload_n 2, 1) := by decide +kernel
theorem dX6_remember_26 : decode cX6_remember 26 = .ok (.ifnull 8, 3) := by decide +kernel
theorem dX6_remember_29 : decode cX6_remember 29 = .ok (.aload_n 2, 1) := by decide +kernel
theorem dX6_remember_30 : decode cX6_remember 30 = .ok (.aload_n 1, 1) := by decide +kernel
theorem dX6_remember_31 : decode cX6_remember 31 = .ok (.invokevirtual 26, 3) := by decide +kernel
theorem dX6_remember_34 : decode cX6_remember 34 = .ok (.aload_n 0, 1) := by decide +kernel
theorem dX6_remember_35 : decode cX6_remember 35 = .ok (.bipush 8, 2) := by decide +kernel
theorem dX6_remember_37 : decode cX6_remember 37 = .ok (.aload_n 0, 1) := by decide +kernel
theorem dX6_remember_38 : decode cX6_remember 38 = .ok (.getfield 30, 3) := by decide +kernel
theorem dX6_remember_41 : decode cX6_remember 41 = .ok (.iconst 1, 1) := by decide +kernel
theorem dX6_remember_42 : decode cX6_remember 42 = .ok (.iadd, 1) := by decide +kernel
theorem dX6_remember_43 : decode cX6_remember 43 = .ok (.invokestatic 33, 3) := by decide +kernel
theorem dX6_remember_46 : decode cX6_remember 46 = .ok (.putfield 30, 3) := by decide +kernel
theorem dX6_remember_49 : decode cX6_remember 49 = .ok (.return_, 1) := by decide +kernel
theorem dX6_bringBack_0 : decode cX6_bringBack 0 = .ok (.aload_n 0, 1) := by decide +kernel
theorem dX6_bringBack_1 : decode cX6_bringBack 1 = .ok (.getfield 11, 3) := by decide +kernel
theorem dX6_bringBack_4 : decode cX6_bringBack 4 = .ok (.aload_n 0, 1) := by decide +kernel
theorem dX6_bringBack_5 : decode cX6_bringBack 5 = .ok (.getfield 16, 3) := by decide +kernel
theorem dX6_bringBack_8 : decode cX6_bringBack 8 = .ok (.aaload, 1) := by decide +kernel
theorem dX6_bringBack_9 : decode cX6_bringBack 9 = .ok (.astore_n 2, 1) := by decide +kernel
theorem dX6_bringBack_10 : decode cX6_bringBack 10 = .ok (.aload_n 0, 1) := by decide +kernel
theorem dX6_bringBack_11 : decode cX6_bringBack 11 = .ok (.getfield 30, 3) := by decide +kernel
theorem dX6_bringBack_14 : decode cX6_bringBack 14 = .ok (.ifCond .le 37, 3) := by decide +kernel
theorem dX6_bringBack_17 : decode cX6_bringBack 17 = .ok (.aload_n 2, 1) := by decide +kernel
theorem dX6_bringBack_18 : decode cX6_bringBack 18 = .ok (.ifnull 33, 3) := by decide +kernel
theorem dX6_bringBack_21 : decode cX6_bringBack 21 = .ok (.aload_n 1, 1) := by decide +kernel
theorem dX6_bringBack_22 : decode cX6_bringBack 22 = .ok (.aload_n 2, 1) := by decide +kernel
theorem dX6_bringBack_23 : decode cX6_bringBack 23 = .ok (.invokevirtual 26, 3) := by decide +kernel
theorem dX6_bringBack_26 : decode cX6_bringBack 26 = .ok (.aload_n 0, 1) := by decide +kernel
theorem dX6_bringBack_27 : decode cX6_bringBack 27 = .ok (.aload_n 0, 1) := by decide +kernel
theorem dX6_bringBack_28 : decode cX6_bringBack 28 = .ok (.getfield 16, 3) := by decide +kernel
theorem dX6_bringBack_31 : decode cX6_bringBack 31 = .ok (.iconst 1, 1) := by decide +kernel
theorem dX6_bringBack_32 : decode cX6_bringBack 32 = .ok (.isub, 1) := by decide +kernel
theorem dX6_bringBack_33 : decode cX6_bringBack 33 = .ok (.bipush 8, 2) := by decide +kernel
theorem dX6_bringBack_35 : decode cX6_bringBack 35 = .ok (.invokestatic 20, 3) := by decide +kernel
theorem dX6_bringBack_38 : decode cX6_bringBack 38 = .ok (.putfield 16, 3) := by decide +kernel
theorem dX6_bringBack_41 : decode cX6_bringBack 41 = .ok (.aload_n 0, 1) := by decide +kernel
theorem dX6_bringBack_42 : decode cX6_bringBack 42 = .ok (.dup, 1) := by decide +kernel
theorem dX6_bringBack_43 : decode cX6_bringBack 43 = .ok (.getfield 30, 3) := by decide +kernel
theorem dX6_bringBack_46 : decode cX6_bringBack 46 = .ok (.iconst 1, 1) := by decide +kernel
theorem dX6_bringBack_47 : decode cX6_bringBack 47 = .ok (.isub, 1) := by decide +kernel
theorem dX6_bringBack_48 : decode cX6_bringBack 48 = .ok (.putfield 30, 3) := by decide +kernel
theorem dX6_bringBack_51 : decode cX6_bringBack 51 = .ok (.return_, 1) := by decide +kernel
theorem dX7_init_0 : decode cX7_init 0 = .ok (.aload_n 0, 1) := by decide +kernel
theorem dX7_init_1 : decode cX7_init 1 = .ok (.invokespecial 3, 3) := by decide +kernel
theorem dX7_init_4 : decode cX7_init 4 = .ok (.aload_n 0, 1) := by decide +kernel
theorem dX7_init_5 : decode cX7_init 5 = .ok (.iconst 3, 1) := by decide +kernel
theorem dX7_init_6 : decode cX7_init 6 = .ok (.newarray .int, 2) := by decide +kernel
theorem dX7_init_8 : decode cX7_init 8 = .ok (.putfield 11, 3) := by decide +kernel
theorem dX7_init_11 : decode cX7_init 11 = .ok (.return_, 1) := by decide +kernel
theorem dX7_read_0 : decode cX7_read 0 = .ok (.aload_n 2, 1) := by decide +kernel
theorem dX7_read_1 : decode cX7_read 1 = .ok (.invokevirtual 15, 3) := by decide +kernel
theorem dX7_read_4 : decode cX7_read 4 = .ok (.aload_n 0, 1) := by decide +kernel
theorem dX7_read_5 : decode cX7_read 5 = .ok (.iconst 0, 1) := by decide +kernel
theorem dX7_read_6 : decode cX7_read 6 = .ok (.putfield 20, 3) := by decide +kernel
theorem dX7_read_9 : decode cX7_read 9 = .ok (.aload_n 0, 1) := by decide +kernel
theorem dX7_read_10 : decode cX7_read 10 = .ok (.iconst 0, 1) := by decide +kernel
theorem dX7_read_11 : decode cX7_read 11 = .ok (.putfield 24, 3) := by decide +kernel
theorem dX7_read_14 : decode cX7_read 14 = .ok (.iconst 0, 1) := by decide +kernel
theorem dX7_read_15 : decode cX7_read 15 = .ok (.istore_n 3, 1) := by decide +kernel
theorem dX7_read_16 : decode cX7_read 16 = .ok (.aload_n 0, 1) := by decide +kernel
theorem dX7_read_17 : decode cX7_read 17 = .ok (.aload_n 1, 1) := by decide +kernel
theorem dX7_read_18 : decode cX7_read 18 = .ok (.invokevirtual 27, 3) := by decide +kernel
theorem dX7_read_21 : decode cX7_read 21 = .ok (.iconst 0, 1) := by decide +kernel
theorem dX7_read_22 : decode cX7_read 22 = .ok (.istore 4, 2) := by decide +kernel
theorem dX7_read_24 : decode cX7_read 24 = .ok (.iload 4, 2) := by decide +kernel
theorem dX7_read_26 : decode cX7_read 26 = .ok (.sipush 200, 3) := by decide +kernel
theorem dX7_read_29 : decode cX7_read 29 = .ok (.if_icmp .ge 96, 3) := by decide +kernel
theorem dX7_read_32 : decode cX7_read 32 = .ok (.aload_n 0, 1) := by decide +kernel
theorem dX7_read_33 : decode cX7_read 33 = .ok (.getfield 33, 3) := by decide +kernel
theorem dX7_read_36 : decode cX7_read 36 = .ok (.iconst (-1), 1) := by decide +kernel
theorem dX7_read_37 : decode cX7_read 37 = .ok (.if_icmp .eq 88, 3) := by decide +kernel
theorem dX7_read_40 : decode cX7_read 40 = .ok (.aload_n 0, 1) := by decide +kernel
theorem dX7_read_41 : decode cX7_read 41 = .ok (.getfield 33, 3) := by decide +kernel
theorem dX7_read_44 : decode cX7_read 44 = .ok (.ifCond .ge 8, 3) := by decide +kernel
theorem dX7_read_47 : decode cX7_read 47 = .ok (.bipush (-9), 2) := by decide +kernel
theorem dX7_read_49 : decode cX7_read 49 = .ok (.goto 13, 3) := by decide +kernel
theorem dX7_read_52 : decode cX7_read 52 = .ok (.ldc 36, 2) := by decide +kernel
theorem dX7_read_54 : decode cX7_read 54 = .ok (.aload_n 0, 1) := by decide +kernel
theorem dX7_read_55 : decode cX7_read 55 = .ok (.getfield 33, 3) := by decide +kernel
theorem dX7_read_58 : decode cX7_read 58 = .ok (.i2c, 1) := by decide +kernel
theorem dX7_read_59 : decode cX7_read 59 = .ok (.invokevirtual 38, 3) := by decide +kernel
theorem dX7_read_62 : decode cX7_read 62 = .ok (.istore 5, 2) := by decide +kernel
theorem dX7_read_64 : decode cX7_read 64 = .ok (.iload 5, 2) := by decide +kernel
theorem dX7_read_66 : decode cX7_read 66 = .ok (.ifCond .lt 24, 3) := by decide +kernel
theorem dX7_read_69 : decode cX7_read 69 = .ok (.aload_n 0, 1) := by decide +kernel
theorem dX7_read_70 : decode cX7_read 70 = .ok (.iload 5, 2) := by decide +kernel
theorem dX7_read_72 : decode cX7_read 72 = .ok (.aload_n 2, 1) := by decide +kernel
theorem dX7_read_73 : decode cX7_read 73 = .ok (.invokevirtual 44, 3) := by decide +kernel
theorem dX7_read_76 : decode cX7_read 76 = .ok (.ifCond .ne 14, 3) := by decide +kernel
theorem dX7_read_79 : decode cX7_read 79 = .ok (.aload_n 0, 1) := by decide +kernel
theorem dX7_read_80 : decode cX7_read 80 = .ok (.aload_n 1, 1) := by decide +kernel
theorem dX7_read_81 : decode cX7_read 81 = .ok (.aload_n 2, 1) := by decide +kernel
end
section
theorem dX7_read_82 : decode cX7_read 82 = .ok (.iload 5, 2) := by decide +kernel
theorem dX7_read_84 : decode cX7_read 84 = .ok (.invokevirtual 48, 3) := by decide +kernel
theorem dX7_read_87 : decode cX7_read 87 = .ok (.ifCond .ne 11, 3) := by decide +kernel
theorem dX7_read_90 : decode cX7_read 90 = .ok (.bipush (-10), 2) := by decide +kernel
theorem dX7_read_92 : decode cX7_read 92 = .ok (.aload_n 0, 1) := by decide +kernel
theorem dX7_read_93 : decode cX7_read 93 = .ok (.getfield 52, 3) := by decide +kernel
theorem dX7_read_96 : decode cX7_read 96 = .ok (.isub, 1) := by decide +kernel
theorem dX7_read_97 : decode cX7_read 97 = .ok (.ireturn, 1) := by decide +kernel
theorem dX7_read_98 : decode cX7_read 98 = .ok (.aload_n 0, 1) := by decide +kernel
theorem dX7_read_99 : decode cX7_read 99 = .ok (.dup, 1) := by decide +kernel
theorem dX7_read_100 : decode cX7_read 100 = .ok (.getfield 24, 3) := by decide +kernel
theorem dX7_read_103 : decode cX7_read 103 = .ok (.iconst 1, 1) := by decide +kernel
theorem dX7_read_104 : decode cX7_read 104 = .ok (.iload 5, 2) := by decide +kernel
theorem dX7_read_106 : decode cX7_read 106 = .ok (.ishl, 1) := by decide +kernel
theorem dX7_read_107 : decode cX7_read 107 = .ok (.ior, 1) := by decide +kernel
theorem dX7_read_108 : decode cX7_read 108 = .ok (.putfield 24, 3) := by decide +kernel
theorem dX7_read_111 : decode cX7_read 111 = .ok (.iinc 3 1, 3) := by decide +kernel
theorem dX7_read_114 : decode cX7_read 114 = .ok (.aload_n 0, 1) := by decide +kernel
theorem dX7_read_115 : decode cX7_read 115 = .ok (.aload_n 1, 1) := by decide +kernel
theorem dX7_read_116 : decode cX7_read 116 = .ok (.invokevirtual 27, 3) := by decide +kernel
theorem dX7_read_119 : decode cX7_read 119 = .ok (.iinc 4 1, 3) := by decide +kernel
theorem dX7_read_122 : decode cX7_read 122 = .ok (.goto (-98), 3) := by decide +kernel
theorem dX7_read_125 : decode cX7_read 125 = .ok (.aload_n 2, 1) := by decide +kernel
theorem dX7_read_126 : decode cX7_read 126 = .ok (.invokevirtual 55, 3) := by decide +kernel
theorem dX7_read_129 : decode cX7_read 129 = .ok (.iload_n 3, 1) := by decide +kernel
theorem dX7_read_130 : decode cX7_read 130 = .ok (.ireturn, 1) := by decide +kernel
theorem dX7_isOneTooMany_0 : decode cX7_isOneTooMany 0 = .ok (.iload_n 1, 1) := by decide +kernel
theorem dX7_isOneTooMany_1 : decode cX7_isOneTooMany 1 = .ok (.iconst 5, 1) := by decide +kernel
theorem dX7_isOneTooMany_2 : decode cX7_isOneTooMany 2 = .ok (.if_icmp .ne 20, 3) := by decide +kernel
theorem dX7_isOneTooMany_5 : decode cX7_isOneTooMany 5 = .ok (.aload_n 2, 1) := by decide +kernel
theorem dX7_isOneTooMany_6 : decode cX7_isOneTooMany 6 = .ok (.getfield 58, 3) := by decide +kernel
theorem dX7_isOneTooMany_9 : decode cX7_isOneTooMany 9 = .ok (.bipush 8, 2) := by decide +kernel
theorem dX7_isOneTooMany_11 : decode cX7_isOneTooMany 11 = .ok (.if_icmp .lt 7, 3) := by decide +kernel
theorem dX7_isOneTooMany_14 : decode cX7_isOneTooMany 14 = .ok (.iconst 1, 1) := by decide +kernel
theorem dX7_isOneTooMany_15 : decode cX7_isOneTooMany 15 = .ok (.goto 24, 3) := by decide +kernel
theorem dX7_isOneTooMany_18 : decode cX7_isOneTooMany 18 = .ok (.iconst 0, 1) := by decide +kernel
theorem dX7_isOneTooMany_19 : decode cX7_isOneTooMany 19 = .ok (.goto 20, 3) := by decide +kernel
theorem dX7_isOneTooMany_22 : decode cX7_isOneTooMany 22 = .ok (.aload_n 0, 1) := by decide +kernel
theorem dX7_isOneTooMany_23 : decode cX7_isOneTooMany 23 = .ok (.getfield 24, 3) := by decide +kernel
theorem dX7_isOneTooMany_26 : decode cX7_isOneTooMany 26 = .ok (.iload_n 1, 1) := by decide +kernel
theorem dX7_isOneTooMany_27 : decode cX7_isOneTooMany 27 = .ok (.invokestatic 61, 3) := by decide +kernel
theorem dX7_isOneTooMany_30 : decode cX7_isOneTooMany 30 = .ok (.iconst 1, 1) := by decide +kernel
theorem dX7_isOneTooMany_31 : decode cX7_isOneTooMany 31 = .ok (.if_icmp .ne 7, 3) := by decide +kernel
theorem dX7_isOneTooMany_34 : decode cX7_isOneTooMany 34 = .ok (.iconst 1, 1) := by decide +kernel
theorem dX7_isOneTooMany_35 : decode cX7_isOneTooMany 35 = .ok (.goto 4, 3) := by decide +kernel
theorem dX7_isOneTooMany_38 : decode cX7_isOneTooMany 38 = .ok (.iconst 0, 1) := by decide +kernel
theorem dX7_isOneTooMany_39 : decode cX7_isOneTooMany 39 = .ok (.ireturn, 1) := by decide +kernel
theorem dX7_readItem_0 : decode cX7_readItem 0 = .ok (.iload_n 3, 1) := by decide +kernel
theorem dX7_readItem_1 : decode cX7_readItem 1 = .ok (.iconst 5, 1) := by decide +kernel
theorem dX7_readItem_2 : decode cX7_readItem 2 = .ok (.if_icmp .ne 7, 3) := by decide +kernel
theorem dX7_readItem_5 : decode cX7_readItem 5 = .ok (.iconst 3, 1) := by decide +kernel
theorem dX7_readItem_6 : decode cX7_readItem 6 = .ok (.goto 4, 3) := by decide +kernel
theorem dX7_readItem_9 : decode cX7_readItem 9 = .ok (.iconst 1, 1) := by decide +kernel
theorem dX7_readItem_10 : decode cX7_readItem 10 = .ok (.istore 4, 2) := by decide +kernel
theorem dX7_readItem_12 : decode cX7_readItem 12 = .ok (.iconst 0, 1) := by decide +kernel
theorem dX7_readItem_13 : decode cX7_readItem 13 = .ok (.istore 5, 2) := by decide +kernel
theorem dX7_readItem_15 : decode cX7_readItem 15 = .ok (.iload 5, 2) := by decide +kernel
theorem dX7_readItem_17 : decode cX7_readItem 17 = .ok (.iload 4, 2) := by decide +kernel
theorem dX7_readItem_19 : decode cX7_readItem 19 = .ok (.if_icmp .ge 53, 3) := by decide +kernel
theorem dX7_readItem_22 : decode cX7_readItem 22 = .ok (.iload 5, 2) := by decide +kernel
theorem dX7_readItem_24 : decode cX7_readItem 24 = .ok (.iconst 3, 1) := by decide +kernel
theorem dX7_readItem_25 : decode cX7_readItem 25 = .ok (.if_icmp .ge 47, 3) := by decide +kernel
theorem dX7_readItem_28 : decode cX7_readItem 28 = .ok (.aload_n 0, 1) := by decide +kernel
theorem dX7_readItem_29 : decode cX7_readItem 29 = .ok (.aload_n 1, 1) := by decide +kernel
theorem dX7_readItem_30 : decode cX7_readItem 30 = .ok (.invokevirtual 27, 3) := by decide +kernel
theorem dX7_readItem_33 : decode cX7_readItem 33 = .ok (.aload_n 0, 1) := by decide +kernel
theorem dX7_readItem_34 : decode cX7_readItem 34 = .ok (.getfield 33, 3) := by decide +kernel
theorem dX7_readItem_37 : decode cX7_readItem 37 = .ok (.bipush (-2), 2) := by decide +kernel
theorem dX7_readItem_39 : decode cX7_readItem 39 = .ok (.if_icmp .ne 14, 3) := by decide +kernel
theorem dX7_readItem_42 : decode cX7_readItem 42 = .ok (.aload_n 0, 1) := by decide +kernel
theorem dX7_readItem_43 : decode cX7_readItem 43 = .ok (.iload_n 3, 1) := by decide +kernel
theorem dX7_readItem_44 : decode cX7_readItem 44 = .ok (.iload 5, 2) := by decide +kernel
theorem dX7_readItem_46 : decode cX7_readItem 46 = .ok (.iadd, 1) := by decide +kernel
theorem dX7_readItem_47 : decode cX7_readItem 47 = .ok (.invokevirtual 65, 3) := by decide +kernel
theorem dX7_readItem_50 : decode cX7_readItem 50 = .ok (.ifCond .ne 5, 3) := by decide +kernel
theorem dX7_readItem_53 : decode cX7_readItem 53 = .ok (.iconst 0, 1) := by decide +kernel
theorem dX7_readItem_54 : decode cX7_readItem 54 = .ok (.ireturn, 1) := by decide +kernel
theorem dX7_readItem_55 : decode cX7_readItem 55 = .ok (.aload_n 0, 1) := by decide +kernel
theorem dX7_readItem_56 : decode cX7_readItem 56 = .ok (.getfield 11, 3) := by decide +kernel
theorem dX7_readItem_59 : decode cX7_readItem 59 = .ok (.iload 5, 2) := by decide +kernel
theorem dX7_readItem_61 : decode cX7_readItem 61 = .ok (.aload_n 0, 1) := by decide +kernel
theorem dX7_readItem_62 : decode cX7_readItem 62 = .ok (.getfield 69, 3) := by decide +kernel
theorem dX7_readItem_65 : decode cX7_readItem 65 = .ok (.iastore, 1) := by decide +kernel
theorem dX7_readItem_66 : decode cX7_readItem 66 = .ok (.iinc 5 1, 3) := by decide +kernel
theorem dX7_readItem_69 : decode cX7_readItem 69 = .ok (.goto (-54), 3) := by decide +kernel
theorem dX7_readItem_72 : decode cX7_readItem 72 = .ok (.iload_n 3, 1) := by decide +kernel
theorem dX7_readItem_73 : decode cX7_readItem 73 = .ok (.iconst 5, 1) := by decide +kernel
theorem dX7_readItem_74 : decode cX7_readItem 74 = .ok (.if_icmp .ne 28, 3) := by decide +kernel
theorem dX7_readItem_77 : decode cX7_readItem 77 = .ok (.aload_n 2, 1) := by decide +kernel
theorem dX7_readItem_78 : decode cX7_readItem 78 = .ok (.aload_n 0, 1) := by decide +kernel
theorem dX7_readItem_79 : decode cX7_readItem 79 = .ok (.getfield 11, 3) := by decide +kernel
theorem dX7_readItem_82 : decode cX7_readItem 82 = .ok (.iconst 0, 1) := by decide +kernel
theorem dX7_readItem_83 : decode cX7_readItem 83 = .ok (.iaload, 1) := by decide +kernel
theorem dX7_readItem_84 : decode cX7_readItem 84 = .ok (.aload_n 0, 1) := by decide +kernel
theorem dX7_readItem_85 : decode cX7_readItem 85 = .ok (.getfield 11, 3) := by decide +kernel
theorem dX7_readItem_88 : decode cX7_readItem 88 = .ok (.iconst 1, 1) := by decide +kernel
theorem dX7_readItem_89 : decode cX7_readItem 89 = .ok (.iaload, 1) := by decide +kernel
theorem dX7_readItem_90 : decode cX7_readItem 90 = .ok (.aload_n 0, 1) := by decide +kernel
theorem dX7_readItem_91 : decode cX7_readItem 91 = .ok (.getfield 11, 3) := by decide +kernel
theorem dX7_readItem_94 : decode cX7_readItem 94 = .ok (.iconst 2, 1) := by decide +kernel
theorem dX7_readItem_95 : decode cX7_readItem 95 = .ok (.iaload, 1) := by decide +kernel
theorem dX7_readItem_96 : decode cX7_readItem 96 = .ok (.invokevirtual 72, 3) := by decide +kernel
theorem dX7_readItem_99 : decode cX7_readItem 99 = .ok (.goto 14, 3) := by decide +kernel
theorem dX7_readItem_102 : decode cX7_readItem 102 = .ok (.aload_n 2, 1) := by decide +kernel
theorem dX7_readItem_103 : decode cX7_readItem 103 = .ok (.iload_n 3, 1) := by decide +kernel
theorem dX7_readItem_104 : decode cX7_readItem 104 = .ok (.aload_n 0, 1) := by decide +kernel
theorem dX7_readItem_105 : decode cX7_readItem 105 = .ok (.getfield 11, 3) := by decide +kernel
theorem dX7_readItem_108 : decode cX7_readItem 108 = .ok (.iconst 0, 1) := by decide +kernel
theorem dX7_readItem_109 : decode cX7_readItem 109 = .ok (.iaload, 1) := by decide +kernel
theorem dX7_readItem_110 : decode cX7_readItem 110 = .ok (.invokevirtual 76, 3) := by decide +kernel
theorem dX7_readItem_113 : decode cX7_readItem 113 = .ok (.aload_n 0, 1) := by decide +kernel
theorem dX7_readItem_114 : decode cX7_readItem 114 = .ok (.aload_n 1, 1) := by decide +kernel
theorem dX7_readItem_115 : decode cX7_readItem 115 = .ok (.invokevirtual 27, 3) := by decide +kernel
theorem dX7_readItem_118 : decode cX7_readItem 118 = .ok (.aload_n 0, 1) := by decide +kernel
theorem dX7_readItem_119 : decode cX7_readItem 119 = .ok (.getfield 33, 3) := by decide +kernel
theorem dX7_readItem_122 : decode cX7_readItem 122 = .ok (.bipush 59, 2) := by decide +kernel
theorem dX7_readItem_124 : decode cX7_readItem 124 = .ok (.if_icmp .ne 7, 3) := by decide +kernel
theorem dX7_readItem_127 : decode cX7_readItem 127 = .ok (.iconst 1, 1) := by decide +kernel
theorem dX7_readItem_128 : decode cX7_readItem 128 = .ok (.goto 4, 3) := by decide +kernel
theorem dX7_readItem_131 : decode cX7_readItem 131 = .ok (.iconst 0, 1) := by decide +kernel
theorem dX7_readItem_132 : decode cX7_readItem 132 = .ok (.ireturn, 1) := by decide +kernel
theorem dX7_isWithin_0 : decode cX7_isWithin 0 = .ok (.iload_n 1, 1) := by decide +kernel
theorem dX7_isWithin_1 : decode cX7_isWithin 1 = .ok (.ifCond .lt 47, 3) := by decide +kernel
theorem dX7_isWithin_4 : decode cX7_isWithin 4 = .ok (.iload_n 1, 1) := by decide +kernel
theorem dX7_isWithin_5 : decode cX7_isWithin 5 = .ok (.getstatic 80, 3) := by decide +kernel
theorem dX7_isWithin_8 : decode cX7_isWithin 8 = .ok (.arraylength, 1) := by decide +kernel
theorem dX7_isWithin_9 : decode cX7_isWithin 9 = .ok (.if_icmp .ge 39, 3) := by decide +kernel
theorem dX7_isWithin_12 : decode cX7_isWithin 12 = .ok (.iload_n 1, 1) := by decide +kernel
theorem dX7_isWithin_13 : decode cX7_isWithin 13 = .ok (.getstatic 83, 3) := by decide +kernel
theorem dX7_isWithin_16 : decode cX7_isWithin 16 = .ok (.arraylength, 1) := by decide +kernel
theorem dX7_isWithin_17 : decode cX7_isWithin 17 = .ok (.if_icmp .ge 31, 3) := by decide +kernel
theorem dX7_isWithin_20 : decode cX7_isWithin 20 = .ok (.aload_n 0, 1) := by decide +kernel
theorem dX7_isWithin_21 : decode cX7_isWithin 21 = .ok (.getfield 69, 3) := by decide +kernel
theorem dX7_isWithin_24 : decode cX7_isWithin 24 = .ok (.getstatic 80, 3) := by decide +kernel
theorem dX7_isWithin_27 : decode cX7_isWithin 27 = .ok (.iload_n 1, 1) := by decide +kernel
theorem dX7_isWithin_28 : decode cX7_isWithin 28 = .ok (.iaload, 1) := by decide +kernel
theorem dX7_isWithin_29 : decode cX7_isWithin 29 = .ok (.if_icmp .lt 19, 3) := by decide +kernel
theorem dX7_isWithin_32 : decode cX7_isWithin 32 = .ok (.aload_n 0, 1) := by decide +kernel
theorem dX7_isWithin_33 : decode cX7_isWithin 33 = .ok (.getfield 69, 3) := by decide +kernel
theorem dX7_isWithin_36 : decode cX7_isWithin 36 = .ok (.getstatic 83, 3) := by decide +kernel
theorem dX7_isWithin_39 : decode cX7_isWithin 39 = .ok (.iload_n 1, 1) := by decide +kernel
theorem dX7_isWithin_40 : decode cX7_isWithin 40 = .ok (.iaload, 1) := by decide +kernel
theorem dX7_isWithin_41 : decode cX7_isWithin 41 = .ok (.if_icmp .gt 7, 3) := by decide +kernel
theorem dX7_isWithin_44 : decode cX7_isWithin 44 = .ok (.iconst 1, 1) := by decide +kernel
theorem dX7_isWithin_45 : decode cX7_isWithin 45 = .ok (.goto 4, 3) := by decide +kernel
theorem dX7_isWithin_48 : decode cX7_isWithin 48 = .ok (.iconst 0, 1) := by decide +kernel
theorem dX7_isWithin_49 : decode cX7_isWithin 49 = .ok (.ireturn, 1) := by decide +kernel
theorem dX7_step_0 : decode cX7_step 0 = .ok (.iconst 0, 1) := by decide +kernel
theorem dX7_step_1 : decode cX7_step 1 = .ok (.istore_n 2, 1) := by decide +kernel
theorem dX7_step_2 : decode cX7_step 2 = .ok (.iload_n 2, 1) := by decide +kernel
theorem dX7_step_3 : decode cX7_step 3 = .ok (.sipush 200, 3) := by decide +kernel
theorem dX7_step_6 : decode cX7_step 6 = .ok (.if_icmp .ge 32, 3) := by decide +kernel
theorem dX7_step_9 : decode cX7_step 9 = .ok (.aload_n 1, 1) := by decide +kernel
theorem dX7_step_10 : decode cX7_step 10 = .ok (.aload_n 0, 1) := by decide +kernel
theorem dX7_step_11 : decode cX7_step 11 = .ok (.getfield 20, 3) := by decide +kernel
theorem dX7_step_14 : decode cX7_step 14 = .ok (.invokevirtual 86, 3) := by decide +kernel
theorem dX7_step_17 : decode cX7_step 17 = .ok (.bipush 32, 2) := by decide +kernel
theorem dX7_step_19 : decode cX7_step 19 = .ok (.if_icmp .ne 19, 3) := by decide +kernel
theorem dX7_step_22 : decode cX7_step 22 = .ok (.aload_n 0, 1) := by decide +kernel
theorem dX7_step_23 : decode cX7_step 23 = .ok (.dup, 1) := by decide +kernel
theorem dX7_step_24 : decode cX7_step 24 = .ok (.getfield 20, 3) := by decide +kernel
theorem dX7_step_27 : decode cX7_step 27 = .ok (.iconst 1, 1) := by decide +kernel
theorem dX7_step_28 : decode cX7_step 28 = .ok (.iadd, 1) := by decide +kernel
theorem dX7_step_29 : decode cX7_step 29 = .ok (.putfield 20, 3) := by decide +kernel
theorem dX7_step_32 : decode cX7_step 32 = .ok (.iinc 2 1, 3) := by decide +kernel
theorem dX7_step_35 : decode cX7_step 35 = .ok (.goto (-33), 3) := by decide +kernel
theorem dX7_step_38 : decode cX7_step 38 = .ok (.aload_n 0, 1) := by decide +kernel
theorem dX7_step_39 : decode cX7_step 39 = .ok (.aload_n 0, 1) := by decide +kernel
theorem dX7_step_40 : decode cX7_step 40 = .ok (.getfield 20, 3) := by decide +kernel
theorem dX7_step_43 : decode cX7_step 43 = .ok (.putfield 52, 3) := by decide +kernel
theorem dX7_step_46 : decode cX7_step 46 = .ok (.aload_n 1, 1) := by decide +kernel
theorem dX7_step_47 : decode cX7_step 47 = .ok (.aload_n 0, 1) := by decide +kernel
theorem dX7_step_48 : decode cX7_step 48 = .ok (.getfield 20, 3) := by decide +kernel
theorem dX7_step_51 : decode cX7_step 51 = .ok (.invokevirtual 86, 3) := by decide +kernel
theorem dX7_step_54 : decode cX7_step 54 = .ok (.istore_n 2, 1) := by decide +kernel
theorem dX7_step_55 : decode cX7_step 55 = .ok (.iload_n 2, 1) := by decide +kernel
theorem dX7_step_56 : decode cX7_step 56 = .ok (.invokestatic 89, 3) := by decide +kernel
theorem dX7_step_59 : decode cX7_step 59 = .ok (.ifCond .eq 11, 3) := by decide +kernel
theorem dX7_step_62 : decode cX7_step 62 = .ok (.aload_n 0, 1) := by decide +kernel
theorem dX7_step_63 : decode cX7_step 63 = .ok (.aload_n 1, 1) := by decide +kernel
theorem dX7_step_64 : decode cX7_step 64 = .ok (.invokevirtual 92, 3) := by decide +kernel
theorem dX7_step_67 : decode cX7_step 67 = .ok (.goto 30, 3) := by decide +kernel
theorem dX7_step_70 : decode cX7_step 70 = .ok (.iload_n 2, 1) := by decide +kernel
theorem dX7_step_71 : decode cX7_step 71 = .ok (.ifCond .ge 11, 3) := by decide +kernel
theorem dX7_step_74 : decode cX7_step 74 = .ok (.aload_n 0, 1) := by decide +kernel
theorem dX7_step_75 : decode cX7_step 75 = .ok (.iconst (-1), 1) := by decide +kernel
theorem dX7_step_76 : decode cX7_step 76 = .ok (.putfield 33, 3) := by decide +kernel
theorem dX7_step_79 : decode cX7_step 79 = .ok (.goto 18, 3) := by decide +kernel
theorem dX7_step_82 : decode cX7_step 82 = .ok (.aload_n 0, 1) := by decide +kernel
theorem dX7_step_83 : decode cX7_step 83 = .ok (.iload_n 2, 1) := by decide +kernel
theorem dX7_step_84 : decode cX7_step 84 = .ok (.putfield 33, 3) := by decide +kernel
theorem dX7_step_87 : decode cX7_step 87 = .ok (.aload_n 0, 1) := by decide +kernel
theorem dX7_step_88 : decode cX7_step 88 = .ok (.dup, 1) := by decide +kernel
theorem dX7_step_89 : decode cX7_step 89 = .ok (.getfield 20, 3) := by decide +kernel
theorem dX7_step_92 : decode cX7_step 92 = .ok (.iconst 1, 1) := by decide +kernel
theorem dX7_step_93 : decode cX7_step 93 = .ok (.iadd, 1) := by decide +kernel
theorem dX7_step_94 : decode cX7_step 94 = .ok (.putfield 20, 3) := by decide +kernel
theorem dX7_step_97 : decode cX7_step 97 = .ok (.return_, 1) := by decide +kernel
theorem dX7_stepOverNumber_0 : decode cX7_stepOverNumber 0 = .ok (.iconst 0, 1) := by decide +kernel
theorem dX7_stepOverNumber_1 : decode cX7_stepOverNumber 1 = .ok (.istore_n 2, 1) := by decide +kernel
theorem dX7_stepOverNumber_2 : decode cX7_stepOverNumber 2 = .ok (.iconst 0, 1) := by decide +kernel
theorem dX7_stepOverNumber_3 : decode cX7_stepOverNumber 3 = .ok (.istore_n 3, 1) := by decide +kernel
theorem dX7_stepOverNumber_4 : decode cX7_stepOverNumber 4 = .ok (.iload_n 3, 1) := by decide +kernel
theorem dX7_stepOverNumber_5 : decode cX7_stepOverNumber 5 = .ok (.sipush 200, 3) := by decide +kernel
theorem dX7_stepOverNumber_8 : decode cX7_stepOverNumber 8 = .ok (.if_icmp .ge 55, 3) := by decide +kernel
theorem dX7_stepOverNumber_11 : decode cX7_stepOverNumber 11 = .ok (.aload_n 1, 1) := by decide +kernel
theorem dX7_stepOverNumber_12 : decode cX7_stepOverNumber 12 = .ok (.aload_n 0, 1) := by decide +kernel
theorem dX7_stepOverNumber_13 : decode cX7_stepOverNumber 13 = .ok (.getfield 20, 3) := by decide +kernel
theorem dX7_stepOverNumber_16 : decode cX7_stepOverNumber 16 = .ok (.invokevirtual 86, 3) := by decide +kernel
theorem dX7_stepOverNumber_19 : decode cX7_stepOverNumber 19 = .ok (.invokestatic 89, 3) := by decide +kernel
theorem dX7_stepOverNumber_22 : decode cX7_stepOverNumber 22 = .ok (.ifCond .eq 41, 3) := by decide +kernel
theorem dX7_stepOverNumber_25 : decode cX7_stepOverNumber 25 = .ok (.bipush 100, 2) := by decide +kernel
theorem dX7_stepOverNumber_27 : decode cX7_stepOverNumber 27 = .ok (.iload_n 2, 1) := by decide +kernel
theorem dX7_stepOverNumber_28 : decode cX7_stepOverNumber 28 = .ok (.bipush 10, 2) := by decide +kernel
theorem dX7_stepOverNumber_30 : decode cX7_stepOverNumber 30 = .ok (.imul, 1) := by decide +kernel
theorem dX7_stepOverNumber_31 : decode cX7_stepOverNumber 31 = .ok (.aload_n 1, 1) := by decide +kernel
theorem dX7_stepOverNumber_32 : decode cX7_stepOverNumber 32 = .ok (.aload_n 0, 1) := by decide +kernel
theorem dX7_stepOverNumber_33 : decode cX7_stepOverNumber 33 = .ok (.getfield 20, 3) := by decide +kernel
theorem dX7_stepOverNumber_36 : decode cX7_stepOverNumber 36 = .ok (.invokevirtual 86, 3) := by decide +kernel
theorem dX7_stepOverNumber_39 : decode cX7_stepOverNumber 39 = .ok (.iadd, 1) := by decide +kernel
theorem dX7_stepOverNumber_40 : decode cX7_stepOverNumber 40 = .ok (.bipush 48, 2) := by decide +kernel
theorem dX7_stepOverNumber_42 : decode cX7_stepOverNumber 42 = .ok (.isub, 1) := by decide +kernel
theorem dX7_stepOverNumber_43 : decode cX7_stepOverNumber 43 = .ok (.invokestatic 95, 3) := by decide +kernel
theorem dX7_stepOverNumber_46 : decode cX7_stepOverNumber 46 = .ok (.istore_n 2, 1) := by decide +kernel
theorem dX7_stepOverNumber_47 : decode cX7_stepOverNumber 47 = .ok (.aload_n 0, 1) := by decide +kernel
theorem dX7_stepOverNumber_48 : decode cX7_stepOverNumber 48 = .ok (.dup, 1) := by decide +kernel
theorem dX7_stepOverNumber_49 : decode cX7_stepOverNumber 49 = .ok (.getfield 20, 3) := by decide +kernel
theorem dX7_stepOverNumber_52 : decode cX7_stepOverNumber 52 = .ok (.iconst 1, 1) := by decide +kernel
theorem dX7_stepOverNumber_53 : decode cX7_stepOverNumber 53 = .ok (.iadd, 1) := by decide +kernel
theorem dX7_stepOverNumber_54 : decode cX7_stepOverNumber 54 = .ok (.putfield 20, 3) := by decide +kernel
theorem dX7_stepOverNumber_57 : decode cX7_stepOverNumber 57 = .ok (.iinc 3 1, 3) := by decide +kernel
theorem dX7_stepOverNumber_60 : decode cX7_stepOverNumber 60 = .ok (.goto (-56), 3) := by decide +kernel
theorem dX7_stepOverNumber_63 : decode cX7_stepOverNumber 63 = .ok (.aload_n 1, 1) := by decide +kernel
theorem dX7_stepOverNumber_64 : decode cX7_stepOverNumber 64 = .ok (.aload_n 0, 1) := by decide +kernel
theorem dX7_stepOverNumber_65 : decode cX7_stepOverNumber 65 = .ok (.getfield 52, 3) := by decide +kernel
theorem dX7_stepOverNumber_68 : decode cX7_stepOverNumber 68 = .ok (.invokevirtual 86, 3) := by decide +kernel
theorem dX7_stepOverNumber_71 : decode cX7_stepOverNumber 71 = .ok (.bipush 48, 2) := by decide +kernel
theorem dX7_stepOverNumber_73 : decode cX7_stepOverNumber 73 = .ok (.if_icmp .ne 20, 3) := by decide +kernel
theorem dX7_stepOverNumber_76 : decode cX7_stepOverNumber 76 = .ok (.aload_n 0, 1) := by decide +kernel
theorem dX7_stepOverNumber_77 : decode cX7_stepOverNumber 77 = .ok (.getfield 20, 3) := by decide +kernel
theorem dX7_stepOverNumber_80 : decode cX7_stepOverNumber 80 = .ok (.aload_n 0, 1) := by decide +kernel
theorem dX7_stepOverNumber_81 : decode cX7_stepOverNumber 81 = .ok (.getfield 52, 3) := by decide +kernel
theorem dX7_stepOverNumber_84 : decode cX7_stepOverNumber 84 = .ok (.isub, 1) := by decide +kernel
theorem dX7_stepOverNumber_85 : decode cX7_stepOverNumber 85 = .ok (.iconst 1, 1) := by decide +kernel
theorem dX7_stepOverNumber_86 : decode cX7_stepOverNumber 86 = .ok (.if_icmp .le 7, 3) := by decide +kernel
theorem dX7_stepOverNumber_89 : decode cX7_stepOverNumber 89 = .ok (.iconst 1, 1) := by decide +kernel
theorem dX7_stepOverNumber_90 : decode cX7_stepOverNumber 90 = .ok (.goto 4, 3) := by decide +kernel
theorem dX7_stepOverNumber_93 : decode cX7_stepOverNumber 93 = .ok (.iconst 0, 1) := by decide +kernel
theorem dX7_stepOverNumber_94 : decode cX7_stepOverNumber 94 = .ok (.istore_n 3, 1) := by decide +kernel
theorem dX7_stepOverNumber_95 : decode cX7_stepOverNumber 95 = .ok (.aload_n 0, 1) := by decide +kernel
theorem dX7_stepOverNumber_96 : decode cX7_stepOverNumber 96 = .ok (.iload_n 3, 1) := by decide +kernel
theorem dX7_stepOverNumber_97 : decode cX7_stepOverNumber 97 = .ok (.ifCond .ne 9, 3) := by decide +kernel
theorem dX7_stepOverNumber_100 : decode cX7_stepOverNumber 100 = .ok (.iload_n 2, 1) := by decide +kernel
theorem dX7_stepOverNumber_101 : decode cX7_stepOverNumber 101 = .ok (.bipush 99, 2) := by decide +kernel
theorem dX7_stepOverNumber_103 : decode cX7_stepOverNumber 103 = .ok (.if_icmp .le 8, 3) := by decide +kernel
theorem dX7_stepOverNumber_106 : decode cX7_stepOverNumber 106 = .ok (.bipush (-3), 2) := by decide +kernel
theorem dX7_stepOverNumber_108 : decode cX7_stepOverNumber 108 = .ok (.goto 5, 3) := by decide +kernel
theorem dX7_stepOverNumber_111 : decode cX7_stepOverNumber 111 = .ok (.bipush (-2), 2) := by decide +kernel
theorem dX7_stepOverNumber_113 : decode cX7_stepOverNumber 113 = .ok (.putfield 33, 3) := by decide +kernel
theorem dX7_stepOverNumber_116 : decode cX7_stepOverNumber 116 = .ok (.aload_n 0, 1) := by decide +kernel
theorem dX7_stepOverNumber_117 : decode cX7_stepOverNumber 117 = .ok (.iload_n 2, 1) := by decide +kernel
theorem dX7_stepOverNumber_118 : decode cX7_stepOverNumber 118 = .ok (.putfield 69, 3) := by decide +kernel
theorem dX7_stepOverNumber_121 : decode cX7_stepOverNumber 121 = .ok (.return_, 1) := by decide +kernel
theorem dX7_isDigit_0 : decode cX7_isDigit 0 = .ok (.iload_n 0, 1) := by decide +kernel
theorem dX7_isDigit_1 : decode cX7_isDigit 1 = .ok (.bipush 48, 2) := by decide +kernel
theorem dX7_isDigit_3 : decode cX7_isDigit 3 = .ok (.if_icmp .lt 13, 3) := by decide +kernel
theorem dX7_isDigit_6 : decode cX7_isDigit 6 = .ok (.iload_n 0, 1) := by decide +kernel
theorem dX7_isDigit_7 : decode cX7_isDigit 7 = .ok (.bipush 57, 2) := by decide +kernel
theorem dX7_isDigit_9 : decode cX7_isDigit 9 = .ok (.if_icmp .gt 7, 3) := by decide +kernel
theorem dX7_isDigit_12 : decode cX7_isDigit 12 = .ok (.iconst 1, 1) := by decide +kernel
theorem dX7_isDigit_13 : decode cX7_isDigit 13 = .ok (.goto 4, 3) := by decide +kernel
theorem dX7_isDigit_16 : decode cX7_isDigit 16 = .ok (.iconst 0, 1) := by decide +kernel
theorem dX7_isDigit_17 : decode cX7_isDigit 17 = .ok (.ireturn, 1) := by decide +kernel
theorem dX8_init_0 : decode cX8_init 0 = .ok (.aload_n 0, 1) := by decide +kernel
theorem dX8_init_1 : decode cX8_init 1 = .ok (.invokespecial 1, 3) := by decide +kernel
theorem dX8_init_4 : decode cX8_init 4 = .ok (.aload_n 0, 1) := by decide +kernel
theorem dX8_init_5 : decode cX8_init 5 = .ok (.new 7, 3) := by decide +kernel
theorem dX8_init_8 : decode cX8_init 8 = .ok (.dup, 1) := by decide +kernel
theorem dX8_init_9 : decode cX8_init 9 = .ok (.invokespecial 9, 3) := by decide +kernel
theorem dX8_init_12 : decode cX8_init 12 = .ok (.putfield 10, 3) := by decide +kernel
theorem dX8_init_15 : decode cX8_init 15 = .ok (.aload_n 0, 1) := by decide +kernel
theorem dX8_init_16 : decode cX8_init 16 = .ok (.new 16, 3) := by decide +kernel
theorem dX8_init_19 : decode cX8_init 19 = .ok (.dup, 1) := by decide +kernel
theorem dX8_init_20 : decode cX8_init 20 = .ok (.invokespecial 18, 3) := by decide +kernel
theorem dX8_init_23 : decode cX8_init 23 = .ok (.putfield 19, 3) := by decide +kernel
theorem dX8_init_26 : decode cX8_init 26 = .ok (.aload_n 0, 1) := by decide +kernel
theorem dX8_init_27 : decode cX8_init 27 = .ok (.new 23, 3) := by decide +kernel
theorem dX8_init_30 : decode cX8_init 30 = .ok (.dup, 1) := by decide +kernel
theorem dX8_init_31 : decode cX8_init 31 = .ok (.invokespecial 25, 3) := by decide +kernel
theorem dX8_init_34 : decode cX8_init 34 = .ok (.putfield 26, 3) := by decide +kernel
theorem dX8_init_37 : decode cX8_init 37 = .ok (.aload_n 0, 1) := by decide +kernel
theorem dX8_init_38 : decode cX8_init 38 = .ok (.new 23, 3) := by decide +kernel
theorem dX8_init_41 : decode cX8_init 41 = .ok (.dup, 1) := by decide +kernel
theorem dX8_init_42 : decode cX8_init 42 = .ok (.invokespecial 25, 3) := by decide +kernel
theorem dX8_init_45 : decode cX8_init 45 = .ok (.putfield 30, 3) := by decide +kernel
theorem dX8_init_48 : decode cX8_init 48 = .ok (.aload_n 0, 1) := by decide +kernel
theorem dX8_init_49 : decode cX8_init 49 = .ok (.new 33, 3) := by decide +kernel
theorem dX8_init_52 : decode cX8_init 52 = .ok (.dup, 1) := by decide +kernel
theorem dX8_init_53 : decode cX8_init 53 = .ok (.invokespecial 35, 3) := by decide +kernel
theorem dX8_init_56 : decode cX8_init 56 = .ok (.putfield 36, 3) := by decide +kernel
theorem dX8_init_59 : decode cX8_init 59 = .ok (.aload_n 0, 1) := by decide +kernel
theorem dX8_init_60 : decode cX8_init 60 = .ok (.new 33, 3) := by decide +kernel
theorem dX8_init_63 : decode cX8_init 63 = .ok (.dup, 1) := by decide +kernel
theorem dX8_init_64 : decode cX8_init 64 = .ok (.invokespecial 35, 3) := by decide +kernel
theorem dX8_init_67 : decode cX8_init 67 = .ok (.putfield 40, 3) := by decide +kernel
theorem dX8_init_70 : decode cX8_init 70 = .ok (.aload_n 0, 1) := by decide +kernel
theorem dX8_init_71 : decode cX8_init 71 = .ok (.new 43, 3) := by decide +kernel
theorem dX8_init_74 : decode cX8_init 74 = .ok (.dup, 1) := by decide +kernel
theorem dX8_init_75 : decode cX8_init 75 = .ok (.invokespecial 45, 3) := by decide +kernel
theorem dX8_init_78 : decode cX8_init 78 = .ok (.putfield 46, 3) := by decide +kernel
theorem dX8_init_81 : decode cX8_init 81 = .ok (.aload_n 0, 1) := by decide +kernel
theorem dX8_init_82 : decode cX8_init 82 = .ok (.iconst 2, 1) := by decide +kernel
theorem dX8_init_83 : decode cX8_init 83 = .ok (.anewarray 33, 3) := by decide +kernel
theorem dX8_init_86 : decode cX8_init 86 = .ok (.putfield 50, 3) := by decide +kernel
theorem dX8_init_89 : decode cX8_init 89 = .ok (.iconst 0, 1) := by decide +kernel
theorem dX8_init_90 : decode cX8_init 90 = .ok (.istore_n 1, 1) := by decide +kernel
theorem dX8_init_91 : decode cX8_init 91 = .ok (.iload_n 1, 1) := by decide +kernel
theorem dX8_init_92 : decode cX8_init 92 = .ok (.iconst 2, 1) := by decide +kernel
theorem dX8_init_93 : decode cX8_init 93 = .ok (.if_icmp .ge 22, 3) := by decide +kernel
theorem dX8_init_96 : decode cX8_init 96 = .ok (.aload_n 0, 1) := by decide +kernel
theorem dX8_init_97 : decode cX8_init 97 = .ok (.getfield 50, 3) := by decide +kernel
theorem dX8_init_100 : decode cX8_init 100 = .ok (.iload_n 1, 1) := by decide +kernel
theorem dX8_init_101 : decode cX8_init 101 = .ok (.new 33, 3) := by decide +kernel
theorem dX8_init_104 : decode cX8_init 104 = .ok (.dup, 1) := by decide +kernel
theorem dX8_init_105 : decode cX8_init 105 = .ok (.invokespecial 35, 3) := by decide +kernel
theorem dX8_init_108 : decode cX8_init 108 = .ok (.aastore, 1) := by decide +kernel
theorem dX8_init_109 : decode cX8_init 109 = .ok (.iinc 1 1, 3) := by decide +kernel
theorem dX8_init_112 : decode cX8_init 112 = .ok (.goto (-21), 3) := by decide +kernel
theorem dX8_init_115 : decode cX8_init 115 = .ok (.aload_n 0, 1) := by decide +kernel
theorem dX8_init_116 : decode cX8_init 116 = .ok (.iconst 2, 1) := by decide +kernel
theorem dX8_init_117 : decode cX8_init 117 = .ok (.newarray .boolean, 2) := by decide +kernel
theorem dX8_init_119 : decode cX8_init 119 = .ok (.putfield 54, 3) := by decide +kernel
theorem dX8_init_122 : decode cX8_init 122 = .ok (.aload_n 0, 1) := by decide +kernel
theorem dX8_init_123 : decode cX8_init 123 = .ok (.new 58, 3) := by decide +kernel
theorem dX8_init_126 : decode cX8_init 126 = .ok (.dup, 1) := by decide +kernel
theorem dX8_init_127 : decode cX8_init 127 = .ok (.invokespecial 60, 3) := by decide +kernel
theorem dX8_init_130 : decode cX8_init 130 = .ok (.putfield 61, 3) := by decide +kernel
theorem dX8_init_133 : decode cX8_init 133 = .ok (.aload_n 0, 1) := by decide +kernel
theorem dX8_init_134 : decode cX8_init 134 = .ok (.new 65, 3) := by decide +kernel
theorem dX8_init_137 : decode cX8_init 137 = .ok (.dup, 1) := by decide +kernel
theorem dX8_init_138 : decode cX8_init 138 = .ok (.invokespecial 67, 3) := by decide +kernel
theorem dX8_init_141 : decode cX8_init 141 = .ok (.putfield 68, 3) := by decide +kernel
theorem dX8_init_144 : decode cX8_init 144 = .ok (.aload_n 0, 1) := by decide +kernel
theorem dX8_init_145 : decode cX8_init 145 = .ok (.bipush 10, 2) := by decide +kernel
theorem dX8_init_147 : decode cX8_init 147 = .ok (.newarray .long, 2) := by decide +kernel
theorem dX8_init_149 : decode cX8_init 149 = .ok (.putfield 72, 3) := by decide +kernel
theorem dX8_init_152 : decode cX8_init 152 = .ok (.aload_n 0, 1) := by decide +kernel
theorem dX8_init_153 : decode cX8_init 153 = .ok (.new 76, 3) := by decide +kernel
theorem dX8_init_156 : decode cX8_init 156 = .ok (.dup, 1) := by decide +kernel
theorem dX8_init_157 : decode cX8_init 157 = .ok (.invokespecial 78, 3) := by decide +kernel
theorem dX8_init_160 : decode cX8_init 160 = .ok (.putfield 79, 3) := by decide +kernel
theorem dX8_init_163 : decode cX8_init 163 = .ok (.return_, 1) := by decide +kernel
theorem dX8_type_0 : decode cX8_type 0 = .ok (.iload_n 1, 1) := by decide +kernel
theorem dX8_type_1 : decode cX8_type 1 = .ok (.ifCond .lt 10, 3) := by decide +kernel
theorem dX8_type_4 : decode cX8_type 4 = .ok (.iload_n 1, 1) := by decide +kernel
theorem dX8_type_5 : decode cX8_type 5 = .ok (.sipush 255, 3) := by decide +kernel
theorem dX8_type_8 : decode cX8_type 8 = .ok (.if_icmp .le 5, 3) := by decide +kernel
theorem dX8_type_11 : decode cX8_type 11 = .ok (.iconst (-1), 1) := by decide +kernel
theorem dX8_type_12 : decode cX8_type 12 = .ok (.ireturn, 1) := by decide +kernel
theorem dX8_type_13 : decode cX8_type 13 = .ok (.aload_n 0, 1) := by decide +kernel
theorem dX8_type_14 : decode cX8_type 14 = .ok (.getfield 10, 3) := by decide +kernel
theorem dX8_type_17 : decode cX8_type 17 = .ok (.iload_n 1, 1) := by decide +kernel
theorem dX8_type_18 : decode cX8_type 18 = .ok (.invokevirtual 83, 3) := by decide +kernel
theorem dX8_type_21 : decode cX8_type 21 = .ok (.ifCond .eq 13, 3) := by decide +kernel
theorem dX8_type_24 : decode cX8_type 24 = .ok (.aload_n 0, 1) := by decide +kernel
theorem dX8_type_25 : decode cX8_type 25 = .ok (.getfield 10, 3) := by decide +kernel
theorem dX8_type_28 : decode cX8_type 28 = .ok (.getfield 87, 3) := by decide +kernel
theorem dX8_type_31 : decode cX8_type 31 = .ok (.goto 5, 3) := by decide +kernel
theorem dX8_type_34 : decode cX8_type 34 = .ok (.bipush (-3), 2) := by decide +kernel
theorem dX8_type_36 : decode cX8_type 36 = .ok (.ireturn, 1) := by decide +kernel
theorem dX8_clear_0 : decode cX8_clear 0 = .ok (.aload_n 0, 1) := by decide +kernel
theorem dX8_clear_1 : decode cX8_clear 1 = .ok (.getfield 10, 3) := by decide +kernel
theorem dX8_clear_4 : decode cX8_clear 4 = .ok (.getfield 87, 3) := by decide +kernel
theorem dX8_clear_7 : decode cX8_clear 7 = .ok (.istore_n 1, 1) := by decide +kernel
theorem dX8_clear_8 : decode cX8_clear 8 = .ok (.aload_n 0, 1) := by decide +kernel
theorem dX8_clear_9 : decode cX8_clear 9 = .ok (.getfield 10, 3) := by decide +kernel
theorem dX8_clear_12 : decode cX8_clear 12 = .ok (.iconst 0, 1) := by decide +kernel
theorem dX8_clear_13 : decode cX8_clear 13 = .ok (.putfield 87, 3) := by decide +kernel
theorem dX8_clear_16 : decode cX8_clear 16 = .ok (.iload_n 1, 1) := by decide +kernel
theorem dX8_clear_17 : decode cX8_clear 17 = .ok (.ireturn, 1) := by decide +kernel
theorem dX8_cellar_0 : decode cX8_cellar 0 = .ok (.aload_n 0, 1) := by decide +kernel
theorem dX8_cellar_1 : decode cX8_cellar 1 = .ok (.getfield 19, 3) := by decide +kernel
theorem dX8_cellar_4 : decode cX8_cellar 4 = .ok (.aload_n 0, 1) := by decide +kernel
theorem dX8_cellar_5 : decode cX8_cellar 5 = .ok (.getfield 10, 3) := by decide +kernel
theorem dX8_cellar_8 : decode cX8_cellar 8 = .ok (.aload_n 0, 1) := by decide +kernel
theorem dX8_cellar_9 : decode cX8_cellar 9 = .ok (.getfield 30, 3) := by decide +kernel
theorem dX8_cellar_12 : decode cX8_cellar 12 = .ok (.invokevirtual 91, 3) := by decide +kernel
theorem dX8_cellar_15 : decode cX8_cellar 15 = .ok (.istore_n 1, 1) := by decide +kernel
theorem dX8_cellar_16 : decode cX8_cellar 16 = .ok (.iload_n 1, 1) := by decide +kernel
theorem dX8_cellar_17 : decode cX8_cellar 17 = .ok (.ifCond .ge 5, 3) := by decide +kernel
theorem dX8_cellar_20 : decode cX8_cellar 20 = .ok (.iload_n 1, 1) := by decide +kernel
theorem dX8_cellar_21 : decode cX8_cellar 21 = .ok (.ireturn, 1) := by decide +kernel
theorem dX8_cellar_22 : decode cX8_cellar 22 = .ok (.aload_n 0, 1) := by decide +kernel
theorem dX8_cellar_23 : decode cX8_cellar 23 = .ok (.getfield 26, 3) := by decide +kernel
theorem dX8_cellar_26 : decode cX8_cellar 26 = .ok (.aload_n 0, 1) := by decide +kernel
theorem dX8_cellar_27 : decode cX8_cellar 27 = .ok (.getfield 30, 3) := by decide +kernel
theorem dX8_cellar_30 : decode cX8_cellar 30 = .ok (.invokevirtual 95, 3) := by decide +kernel
theorem dX8_cellar_33 : decode cX8_cellar 33 = .ok (.aload_n 0, 1) := by decide +kernel
theorem dX8_cellar_34 : decode cX8_cellar 34 = .ok (.getfield 36, 3) := by decide +kernel
theorem dX8_cellar_37 : decode cX8_cellar 37 = .ok (.aload_n 0, 1) := by decide +kernel
theorem dX8_cellar_38 : decode cX8_cellar 38 = .ok (.getfield 26, 3) := by decide +kernel
theorem dX8_cellar_41 : decode cX8_cellar 41 = .ok (.getfield 99, 3) := by decide +kernel
theorem dX8_cellar_44 : decode cX8_cellar 44 = .ok (.invokevirtual 102, 3) := by decide +kernel
theorem dX8_cellar_47 : decode cX8_cellar 47 = .ok (.aload_n 0, 1) := by decide +kernel
theorem dX8_cellar_48 : decode cX8_cellar 48 = .ok (.getfield 10, 3) := by decide +kernel
theorem dX8_cellar_51 : decode cX8_cellar 51 = .ok (.iconst 0, 1) := by decide +kernel
theorem dX8_cellar_52 : decode cX8_cellar 52 = .ok (.putfield 87, 3) := by decide +kernel
theorem dX8_cellar_55 : decode cX8_cellar 55 = .ok (.aload_n 0, 1) := by decide +kernel
theorem dX8_cellar_56 : decode cX8_cellar 56 = .ok (.getfield 61, 3) := by decide +kernel
theorem dX8_cellar_59 : decode cX8_cellar 59 = .ok (.iconst 0, 1) := by decide +kernel
theorem dX8_cellar_60 : decode cX8_cellar 60 = .ok (.putfield 105, 3) := by decide +kernel
theorem dX8_cellar_63 : decode cX8_cellar 63 = .ok (.aload_n 0, 1) := by decide +kernel
theorem dX8_cellar_64 : decode cX8_cellar 64 = .ok (.getfield 46, 3) := by decide +kernel
theorem dX8_cellar_67 : decode cX8_cellar 67 = .ok (.iconst 0, 1) := by decide +kernel
theorem dX8_cellar_68 : decode cX8_cellar 68 = .ok (.putfield 108, 3) := by decide +kernel
theorem dX8_cellar_71 : decode cX8_cellar 71 = .ok (.iconst 0, 1) := by decide +kernel
theorem dX8_cellar_72 : decode cX8_cellar 72 = .ok (.istore_n 2, 1) := by decide +kernel
theorem dX8_cellar_73 : decode cX8_cellar 73 = .ok (.iload_n 2, 1) := by decide +kernel
theorem dX8_cellar_74 : decode cX8_cellar 74 = .ok (.iconst 2, 1) := by decide +kernel
theorem dX8_cellar_75 : decode cX8_cellar 75 = .ok (.if_icmp .ge 16, 3) := by decide +kernel
theorem dX8_cellar_78 : decode cX8_cellar 78 = .ok (.aload_n 0, 1) := by decide +kernel
theorem dX8_cellar_79 : decode cX8_cellar 79 = .ok (.getfield 54, 3) := by decide +kernel
theorem dX8_cellar_82 : decode cX8_cellar 82 = .ok (.iload_n 2, 1) := by decide +kernel
theorem dX8_cellar_83 : decode cX8_cellar 83 = .ok (.iconst 0, 1) := by decide +kernel
theorem dX8_cellar_84 : decode cX8_cellar 84 = .ok (.bastore, 1) := by decide +kernel
theorem dX8_cellar_85 : decode cX8_cellar 85 = .ok (.iinc 2 1, 3) := by decide +kernel
theorem dX8_cellar_88 : decode cX8_cellar 88 = .ok (.goto (-15), 3) := by decide +kernel
theorem dX8_cellar_91 : decode cX8_cellar 91 = .ok (.iload_n 1, 1) := by decide +kernel
theorem dX8_cellar_92 : decode cX8_cellar 92 = .ok (.ireturn, 1) := by decide +kernel
theorem dX8_broom_0 : decode cX8_broom 0 = .ok (.iload_n 1, 1) := by decide +kernel
theorem dX8_broom_1 : decode cX8_broom 1 = .ok (.ifCond .lt 9, 3) := by decide +kernel
theorem dX8_broom_4 : decode cX8_broom 4 = .ok (.iload_n 1, 1) := by decide +kernel
theorem dX8_broom_5 : decode cX8_broom 5 = .ok (.bipush 8, 2) := by decide +kernel
theorem dX8_broom_7 : decode cX8_broom 7 = .ok (.if_icmp .lt 5, 3) := by decide +kernel
theorem dX8_broom_10 : decode cX8_broom 10 = .ok (.iconst (-1), 1) := by decide +kernel
theorem dX8_broom_11 : decode cX8_broom 11 = .ok (.ireturn, 1) := by decide +kernel
theorem dX8_broom_12 : decode cX8_broom 12 = .ok (.iload_n 2, 1) := by decide +kernel
theorem dX8_broom_13 : decode cX8_broom 13 = .ok (.tableswitch 121 0 6 #[43, 53, 63, 73, 85, 97, 109], 43) := by decide +kernel
theorem dX8_broom_56 : decode cX8_broom 56 = .ok (.aload_n 0, 1) := by decide +kernel
theorem dX8_broom_57 : decode cX8_broom 57 = .ok (.getfield 36, 3) := by decide +kernel
theorem dX8_broom_60 : decode cX8_broom 60 = .ok (.getfield 109, 3) := by decide +kernel
theorem dX8_broom_63 : decode cX8_broom 63 = .ok (.iload_n 1, 1) := by decide +kernel
theorem dX8_broom_64 : decode cX8_broom 64 = .ok (.iaload, 1) := by decide +kernel
theorem dX8_broom_65 : decode cX8_broom 65 = .ok (.ireturn, 1) := by decide +kernel
theorem dX8_broom_66 : decode cX8_broom 66 = .ok (.aload_n 0, 1) := by decide +kernel
theorem dX8_broom_67 : decode cX8_broom 67 = .ok (.getfield 36, 3) := by decide +kernel
theorem dX8_broom_70 : decode cX8_broom 70 = .ok (.getfield 113, 3) := by decide +kernel
theorem dX8_broom_73 : decode cX8_broom 73 = .ok (.iload_n 1, 1) := by decide +kernel
theorem dX8_broom_74 : decode cX8_broom 74 = .ok (.iaload, 1) := by decide +kernel
theorem dX8_broom_75 : decode cX8_broom 75 = .ok (.ireturn, 1) := by decide +kernel
theorem dX8_broom_76 : decode cX8_broom 76 = .ok (.aload_n 0, 1) := by decide +kernel
theorem dX8_broom_77 : decode cX8_broom 77 = .ok (.getfield 36, 3) := by decide +kernel
theorem dX8_broom_80 : decode cX8_broom 80 = .ok (.getfield 116, 3) := by decide +kernel
theorem dX8_broom_83 : decode cX8_broom 83 = .ok (.iload_n 1, 1) := by decide +kernel
theorem dX8_broom_84 : decode cX8_broom 84 = .ok (.iaload, 1) := by decide +kernel
theorem dX8_broom_85 : decode cX8_broom 85 = .ok (.ireturn, 1) := by decide +kernel
theorem dX8_broom_86 : decode cX8_broom 86 = .ok (.aload_n 0, 1) := by decide +kernel
theorem dX8_broom_87 : decode cX8_broom 87 = .ok (.getfield 36, 3) := by decide +kernel
theorem dX8_broom_90 : decode cX8_broom 90 = .ok (.getfield 119, 3) := by decide +kernel
theorem dX8_broom_93 : decode cX8_broom 93 = .ok (.iload_n 1, 1) := by decide +kernel
theorem dX8_broom_94 : decode cX8_broom 94 = .ok (.invokestatic 122, 3) := by decide +kernel
theorem dX8_broom_97 : decode cX8_broom 97 = .ok (.ireturn, 1) := by decide +kernel
theorem dX8_broom_98 : decode cX8_broom 98 = .ok (.aload_n 0, 1) := by decide +kernel
theorem dX8_broom_99 : decode cX8_broom 99 = .ok (.getfield 36, 3) := by decide +kernel
theorem dX8_broom_102 : decode cX8_broom 102 = .ok (.getfield 126, 3) := by decide +kernel
theorem dX8_broom_105 : decode cX8_broom 105 = .ok (.iload_n 1, 1) := by decide +kernel
theorem dX8_broom_106 : decode cX8_broom 106 = .ok (.invokestatic 122, 3) := by decide +kernel
theorem dX8_broom_109 : decode cX8_broom 109 = .ok (.ireturn, 1) := by decide +kernel
theorem dX8_broom_110 : decode cX8_broom 110 = .ok (.aload_n 0, 1) := by decide +kernel
theorem dX8_broom_111 : decode cX8_broom 111 = .ok (.getfield 36, 3) := by decide +kernel
theorem dX8_broom_114 : decode cX8_broom 114 = .ok (.getfield 129, 3) := by decide +kernel
theorem dX8_broom_117 : decode cX8_broom 117 = .ok (.iload_n 1, 1) := by decide +kernel
theorem dX8_broom_118 : decode cX8_broom 118 = .ok (.invokestatic 122, 3) := by decide +kernel
theorem dX8_broom_121 : decode cX8_broom 121 = .ok (.ireturn, 1) := by decide +kernel
theorem dX8_broom_122 : decode cX8_broom 122 = .ok (.aload_n 0, 1) := by decide +kernel
theorem dX8_broom_123 : decode cX8_broom 123 = .ok (.getfield 36, 3) := by decide +kernel
theorem dX8_broom_126 : decode cX8_broom 126 = .ok (.getfield 132, 3) := by decide +kernel
theorem dX8_broom_129 : decode cX8_broom 129 = .ok (.iload_n 1, 1) := by decide +kernel
theorem dX8_broom_130 : decode cX8_broom 130 = .ok (.invokestatic 122, 3) := by decide +kernel
theorem dX8_broom_133 : decode cX8_broom 133 = .ok (.ireturn, 1) := by decide +kernel
theorem dX8_broom_134 : decode cX8_broom 134 = .ok (.iconst (-1), 1) := by decide +kernel
theorem dX8_broom_135 : decode cX8_broom 135 = .ok (.ireturn, 1) := by decide +kernel
theorem dX8_now_0 : decode cX8_now 0 = .ok (.iload_n 1, 1) := by decide +kernel
theorem dX8_now_1 : decode cX8_now 1 = .ok (.tableswitch 94 0 5 #[39, 47, 55, 70, 78, 86], 39) := by decide +kernel
theorem dX8_now_40 : decode cX8_now 40 = .ok (.aload_n 0, 1) := by decide +kernel
theorem dX8_now_41 : decode cX8_now 41 = .ok (.getfield 36, 3) := by decide +kernel
theorem dX8_now_44 : decode cX8_now 44 = .ok (.getfield 135, 3) := by decide +kernel
theorem dX8_now_47 : decode cX8_now 47 = .ok (.ireturn, 1) := by decide +kernel
theorem dX8_now_48 : decode cX8_now 48 = .ok (.aload_n 0, 1) := by decide +kernel
theorem dX8_now_49 : decode cX8_now 49 = .ok (.getfield 36, 3) := by decide +kernel
theorem dX8_now_52 : decode cX8_now 52 = .ok (.getfield 138, 3) := by decide +kernel
theorem dX8_now_55 : decode cX8_now 55 = .ok (.ireturn, 1) := by decide +kernel
theorem dX8_now_56 : decode cX8_now 56 = .ok (.aload_n 0, 1) := by decide +kernel
theorem dX8_now_57 : decode cX8_now 57 = .ok (.getfield 26, 3) := by decide +kernel
theorem dX8_now_60 : decode cX8_now 60 = .ok (.aload_n 0, 1) := by decide +kernel
theorem dX8_now_61 : decode cX8_now 61 = .ok (.getfield 36, 3) := by decide +kernel
theorem dX8_now_64 : decode cX8_now 64 = .ok (.getfield 138, 3) := by decide +kernel
theorem dX8_now_67 : decode cX8_now 67 = .ok (.invokevirtual 141, 3) := by decide +kernel
theorem dX8_now_70 : decode cX8_now 70 = .ok (.ireturn, 1) := by decide +kernel
theorem dX8_now_71 : decode cX8_now 71 = .ok (.aload_n 0, 1) := by decide +kernel
theorem dX8_now_72 : decode cX8_now 72 = .ok (.getfield 36, 3) := by decide +kernel
theorem dX8_now_75 : decode cX8_now 75 = .ok (.getfield 145, 3) := by decide +kernel
theorem dX8_now_78 : decode cX8_now 78 = .ok (.ireturn, 1) := by decide +kernel
theorem dX8_now_79 : decode cX8_now 79 = .ok (.aload_n 0, 1) := by decide +kernel
theorem dX8_now_80 : decode cX8_now 80 = .ok (.getfield 36, 3) := by decide +kernel
theorem dX8_now_83 : decode cX8_now 83 = .ok (.getfield 132, 3) := by decide +kernel
theorem dX8_now_86 : decode cX8_now 86 = .ok (.ireturn, 1) := by decide +kernel
theorem dX8_now_87 : decode cX8_now 87 = .ok (.aload_n 0, 1) := by decide +kernel
theorem dX8_now_88 : decode cX8_now 88 = .ok (.getfield 46, 3) := by decide +kernel
theorem dX8_now_91 : decode cX8_now 91 = .ok (.getfield 108, 3) := by decide +kernel
theorem dX8_now_94 : decode cX8_now 94 = .ok (.ireturn, 1) := by decide +kernel
theorem dX8_now_95 : decode cX8_now 95 = .ok (.iconst (-1), 1) := by decide +kernel
theorem dX8_now_96 : decode cX8_now 96 = .ok (.ireturn, 1) := by decide +kernel
theorem dX8_minute_0 : decode cX8_minute 0 = .ok (.aload_n 0, 1) := by decide +kernel
theorem dX8_minute_1 : decode cX8_minute 1 = .ok (.getfield 36, 3) := by decide +kernel
theorem dX8_minute_4 : decode cX8_minute 4 = .ok (.getfield 135, 3) := by decide +kernel
theorem dX8_minute_7 : decode cX8_minute 7 = .ok (.sipush 9999, 3) := by decide +kernel
theorem dX8_minute_10 : decode cX8_minute 10 = .ok (.if_icmp .lt 6, 3) := by decide +kernel
theorem dX8_minute_13 : decode cX8_minute 13 = .ok (.bipush (-2), 2) := by decide +kernel
theorem dX8_minute_15 : decode cX8_minute 15 = .ok (.ireturn, 1) := by decide +kernel
theorem dX8_minute_16 : decode cX8_minute 16 = .ok (.aload_n 0, 1) := by decide +kernel
theorem dX8_minute_17 : decode cX8_minute 17 = .ok (.getfield 46, 3) := by decide +kernel
theorem dX8_minute_20 : decode cX8_minute 20 = .ok (.aload_n 0, 1) := by decide +kernel
theorem dX8_minute_21 : decode cX8_minute 21 = .ok (.getfield 36, 3) := by decide +kernel
theorem dX8_minute_24 : decode cX8_minute 24 = .ok (.invokevirtual 148, 3) := by decide +kernel
theorem dX8_minute_27 : decode cX8_minute 27 = .ok (.aload_n 0, 1) := by decide +kernel
theorem dX8_minute_28 : decode cX8_minute 28 = .ok (.getfield 36, 3) := by decide +kernel
theorem dX8_minute_31 : decode cX8_minute 31 = .ok (.aload_n 0, 1) := by decide +kernel
theorem dX8_minute_32 : decode cX8_minute 32 = .ok (.getfield 26, 3) := by decide +kernel
theorem dX8_minute_35 : decode cX8_minute 35 = .ok (.invokevirtual 151, 3) := by decide +kernel
theorem dX8_minute_38 : decode cX8_minute 38 = .ok (.aload_n 0, 1) := by decide +kernel
theorem dX8_minute_39 : decode cX8_minute 39 = .ok (.getfield 26, 3) := by decide +kernel
theorem dX8_minute_42 : decode cX8_minute 42 = .ok (.invokevirtual 155, 3) := by decide +kernel
theorem dX8_minute_45 : decode cX8_minute 45 = .ok (.invokevirtual 158, 3) := by decide +kernel
theorem dX8_minute_48 : decode cX8_minute 48 = .ok (.aload_n 0, 1) := by decide +kernel
theorem dX8_minute_49 : decode cX8_minute 49 = .ok (.getfield 26, 3) := by decide +kernel
theorem dX8_minute_52 : decode cX8_minute 52 = .ok (.aload_n 0, 1) := by decide +kernel
theorem dX8_minute_53 : decode cX8_minute 53 = .ok (.getfield 36, 3) := by decide +kernel
theorem dX8_minute_56 : decode cX8_minute 56 = .ok (.getfield 138, 3) := by decide +kernel
theorem dX8_minute_59 : decode cX8_minute 59 = .ok (.invokevirtual 141, 3) := by decide +kernel
theorem dX8_minute_62 : decode cX8_minute 62 = .ok (.istore_n 1, 1) := by decide +kernel
theorem dX8_minute_63 : decode cX8_minute 63 = .ok (.aload_n 0, 1) := by decide +kernel
theorem dX8_minute_64 : decode cX8_minute 64 = .ok (.getfield 36, 3) := by decide +kernel
theorem dX8_minute_67 : decode cX8_minute 67 = .ok (.aload_n 0, 1) := by decide +kernel
theorem dX8_minute_68 : decode cX8_minute 68 = .ok (.getfield 36, 3) := by decide +kernel
theorem dX8_minute_71 : decode cX8_minute 71 = .ok (.getfield 145, 3) := by decide +kernel
theorem dX8_minute_74 : decode cX8_minute 74 = .ok (.iload_n 1, 1) := by decide +kernel
theorem dX8_minute_75 : decode cX8_minute 75 = .ok (.invokestatic 162, 3) := by decide +kernel
theorem dX8_minute_78 : decode cX8_minute 78 = .ok (.putfield 145, 3) := by decide +kernel
theorem dX8_minute_81 : decode cX8_minute 81 = .ok (.iload_n 1, 1) := by decide +kernel
theorem dX8_minute_82 : decode cX8_minute 82 = .ok (.ireturn, 1) := by decide +kernel
theorem dX8_splits_0 : decode cX8_splits 0 = .ok (.aload_n 0, 1) := by decide +kernel
theorem dX8_splits_1 : decode cX8_splits 1 = .ok (.getfield 36, 3) := by decide +kernel
theorem dX8_splits_4 : decode cX8_splits 4 = .ok (.iload_n 1, 1) := by decide +kernel
theorem dX8_splits_5 : decode cX8_splits 5 = .ok (.invokevirtual 167, 3) := by decide +kernel
theorem dX8_splits_8 : decode cX8_splits 8 = .ok (.ifCond .ne 5, 3) := by decide +kernel
theorem dX8_splits_11 : decode cX8_splits 11 = .ok (.iconst (-1), 1) := by decide +kernel
theorem dX8_splits_12 : decode cX8_splits 12 = .ok (.ireturn, 1) := by decide +kernel
theorem dX8_splits_13 : decode cX8_splits 13 = .ok (.aload_n 0, 1) := by decide +kernel
theorem dX8_splits_14 : decode cX8_splits 14 = .ok (.getfield 36, 3) := by decide +kernel
theorem dX8_splits_17 : decode cX8_splits 17 = .ok (.iload_n 1, 1) := by decide +kernel
theorem dX8_splits_18 : decode cX8_splits 18 = .ok (.invokevirtual 170, 3) := by decide +kernel
theorem dX8_splits_21 : decode cX8_splits 21 = .ok (.ifCond .ne 6, 3) := by decide +kernel
theorem dX8_splits_24 : decode cX8_splits 24 = .ok (.bipush (-3), 2) := by decide +kernel
theorem dX8_splits_26 : decode cX8_splits 26 = .ok (.ireturn, 1) := by decide +kernel
theorem dX8_splits_27 : decode cX8_splits 27 = .ok (.aload_n 0, 1) := by decide +kernel
theorem dX8_splits_28 : decode cX8_splits 28 = .ok (.getfield 46, 3) := by decide +kernel
theorem dX8_splits_31 : decode cX8_splits 31 = .ok (.aload_n 0, 1) := by decide +kernel
theorem dX8_splits_32 : decode cX8_splits 32 = .ok (.getfield 36, 3) := by decide +kernel
theorem dX8_splits_35 : decode cX8_splits 35 = .ok (.invokevirtual 148, 3) := by decide +kernel
theorem dX8_splits_38 : decode cX8_splits 38 = .ok (.aload_n 0, 1) := by decide +kernel
theorem dX8_splits_39 : decode cX8_splits 39 = .ok (.getfield 36, 3) := by decide +kernel
theorem dX8_splits_42 : decode cX8_splits 42 = .ok (.iload_n 1, 1) := by decide +kernel
theorem dX8_splits_43 : decode cX8_splits 43 = .ok (.invokevirtual 173, 3) := by decide +kernel
theorem dX8_splits_46 : decode cX8_splits 46 = .ok (.ireturn, 1) := by decide +kernel
theorem dX8_teaches_0 : decode cX8_teaches 0 = .ok (.aload_n 0, 1) := by decide +kernel
theorem dX8_teaches_1 : decode cX8_teaches 1 = .ok (.getfield 36, 3) := by decide +kernel
theorem dX8_teaches_4 : decode cX8_teaches 4 = .ok (.iload_n 1, 1) := by decide +kernel
theorem dX8_teaches_5 : decode cX8_teaches 5 = .ok (.invokevirtual 167, 3) := by decide +kernel
theorem dX8_teaches_8 : decode cX8_teaches 8 = .ok (.ifCond .ne 5, 3) := by decide +kernel
theorem dX8_teaches_11 : decode cX8_teaches 11 = .ok (.iconst (-1), 1) := by decide +kernel
theorem dX8_teaches_12 : decode cX8_teaches 12 = .ok (.ireturn, 1) := by decide +kernel
theorem dX8_teaches_13 : decode cX8_teaches 13 = .ok (.aload_n 0, 1) := by decide +kernel
theorem dX8_teaches_14 : decode cX8_teaches 14 = .ok (.getfield 46, 3) := by decide +kernel
theorem dX8_teaches_17 : decode cX8_teaches 17 = .ok (.aload_n 0, 1) := by decide +kernel
theorem dX8_teaches_18 : decode cX8_teaches 18 = .ok (.getfield 36, 3) := by decide +kernel
theorem dX8_teaches_21 : decode cX8_teaches 21 = .ok (.invokevirtual 148, 3) := by decide +kernel
theorem dX8_teaches_24 : decode cX8_teaches 24 = .ok (.aload_n 0, 1) := by decide +kernel
theorem dX8_teaches_25 : decode cX8_teaches 25 = .ok (.getfield 36, 3) := by decide +kernel
theorem dX8_teaches_28 : decode cX8_teaches 28 = .ok (.dup, 1) := by decide +kernel
theorem dX8_teaches_29 : decode cX8_teaches 29 = .ok (.getfield 119, 3) := by decide +kernel
theorem dX8_teaches_32 : decode cX8_teaches 32 = .ok (.iconst 1, 1) := by decide +kernel
theorem dX8_teaches_33 : decode cX8_teaches 33 = .ok (.iload_n 1, 1) := by decide +kernel
theorem dX8_teaches_34 : decode cX8_teaches 34 = .ok (.ishl, 1) := by decide +kernel
theorem dX8_teaches_35 : decode cX8_teaches 35 = .ok (.ixor, 1) := by decide +kernel
theorem dX8_teaches_36 : decode cX8_teaches 36 = .ok (.putfield 119, 3) := by decide +kernel
theorem dX8_teaches_39 : decode cX8_teaches 39 = .ok (.aload_n 0, 1) := by decide +kernel
theorem dX8_teaches_40 : decode cX8_teaches 40 = .ok (.getfield 36, 3) := by decide +kernel
theorem dX8_teaches_43 : decode cX8_teaches 43 = .ok (.getfield 119, 3) := by decide +kernel
theorem dX8_teaches_46 : decode cX8_teaches 46 = .ok (.iload_n 1, 1) := by decide +kernel
theorem dX8_teaches_47 : decode cX8_teaches 47 = .ok (.invokestatic 122, 3) := by decide +kernel
theorem dX8_teaches_50 : decode cX8_teaches 50 = .ok (.ireturn, 1) := by decide +kernel
theorem dX8_bores_0 : decode cX8_bores 0 = .ok (.aload_n 0, 1) := by decide +kernel
theorem dX8_bores_1 : decode cX8_bores 1 = .ok (.getfield 36, 3) := by decide +kernel
theorem dX8_bores_4 : decode cX8_bores 4 = .ok (.iload_n 1, 1) := by decide +kernel
theorem dX8_bores_5 : decode cX8_bores 5 = .ok (.invokevirtual 167, 3) := by decide +kernel
theorem dX8_bores_8 : decode cX8_bores 8 = .ok (.ifCond .ne 5, 3) := by decide +kernel
theorem dX8_bores_11 : decode cX8_bores 11 = .ok (.iconst (-1), 1) := by decide +kernel
theorem dX8_bores_12 : decode cX8_bores 12 = .ok (.ireturn, 1) := by decide +kernel
theorem dX8_bores_13 : decode cX8_bores 13 = .ok (.aload_n 0, 1) := by decide +kernel
theorem dX8_bores_14 : decode cX8_bores 14 = .ok (.getfield 36, 3) := by decide +kernel
theorem dX8_bores_17 : decode cX8_bores 17 = .ok (.getfield 126, 3) := by decide +kernel
theorem dX8_bores_20 : decode cX8_bores 20 = .ok (.iload_n 1, 1) := by decide +kernel
theorem dX8_bores_21 : decode cX8_bores 21 = .ok (.invokestatic 122, 3) := by decide +kernel
theorem dX8_bores_24 : decode cX8_bores 24 = .ok (.iconst 1, 1) := by decide +kernel
theorem dX8_bores_25 : decode cX8_bores 25 = .ok (.if_icmp .ne 6, 3) := by decide +kernel
theorem dX8_bores_28 : decode cX8_bores 28 = .ok (.bipush (-2), 2) := by decide +kernel
theorem dX8_bores_30 : decode cX8_bores 30 = .ok (.ireturn, 1) := by decide +kernel
theorem dX8_bores_31 : decode cX8_bores 31 = .ok (.aload_n 0, 1) := by decide +kernel
theorem dX8_bores_32 : decode cX8_bores 32 = .ok (.getfield 46, 3) := by decide +kernel
theorem dX8_bores_35 : decode cX8_bores 35 = .ok (.aload_n 0, 1) := by decide +kernel
theorem dX8_bores_36 : decode cX8_bores 36 = .ok (.getfield 36, 3) := by decide +kernel
theorem dX8_bores_39 : decode cX8_bores 39 = .ok (.invokevirtual 148, 3) := by decide +kernel
theorem dX8_bores_42 : decode cX8_bores 42 = .ok (.aload_n 0, 1) := by decide +kernel
theorem dX8_bores_43 : decode cX8_bores 43 = .ok (.getfield 36, 3) := by decide +kernel
theorem dX8_bores_46 : decode cX8_bores 46 = .ok (.dup, 1) := by decide +kernel
theorem dX8_bores_47 : decode cX8_bores 47 = .ok (.getfield 126, 3) := by decide +kernel
theorem dX8_bores_50 : decode cX8_bores 50 = .ok (.iconst 1, 1) := by decide +kernel
theorem dX8_bores_51 : decode cX8_bores 51 = .ok (.iload_n 1, 1) := by decide +kernel
theorem dX8_bores_52 : decode cX8_bores 52 = .ok (.ishl, 1) := by decide +kernel
theorem dX8_bores_53 : decode cX8_bores 53 = .ok (.ior, 1) := by decide +kernel
theorem dX8_bores_54 : decode cX8_bores 54 = .ok (.putfield 126, 3) := by decide +kernel
theorem dX8_bores_57 : decode cX8_bores 57 = .ok (.aload_n 0, 1) := by decide +kernel
theorem dX8_bores_58 : decode cX8_bores 58 = .ok (.getfield 36, 3) := by decide +kernel
theorem dX8_bores_61 : decode cX8_bores 61 = .ok (.getfield 109, 3) := by decide +kernel
theorem dX8_bores_64 : decode cX8_bores 64 = .ok (.iload_n 1, 1) := by decide +kernel
theorem dX8_bores_65 : decode cX8_bores 65 = .ok (.iaload, 1) := by decide +kernel
theorem dX8_bores_66 : decode cX8_bores 66 = .ok (.ireturn, 1) := by decide +kernel
theorem dX8_burns_0 : decode cX8_burns 0 = .ok (.aload_n 0, 1) := by decide +kernel
theorem dX8_burns_1 : decode cX8_burns 1 = .ok (.getfield 36, 3) := by decide +kernel
theorem dX8_burns_4 : decode cX8_burns 4 = .ok (.iload_n 1, 1) := by decide +kernel
theorem dX8_burns_5 : decode cX8_burns 5 = .ok (.invokevirtual 167, 3) := by decide +kernel
theorem dX8_burns_8 : decode cX8_burns 8 = .ok (.ifCond .ne 5, 3) := by decide +kernel
theorem dX8_burns_11 : decode cX8_burns 11 = .ok (.iconst (-1), 1) := by decide +kernel
theorem dX8_burns_12 : decode cX8_burns 12 = .ok (.ireturn, 1) := by decide +kernel
theorem dX8_burns_13 : decode cX8_burns 13 = .ok (.aload_n 0, 1) := by decide +kernel
theorem dX8_burns_14 : decode cX8_burns 14 = .ok (.getfield 36, 3) := by decide +kernel
theorem dX8_burns_17 : decode cX8_burns 17 = .ok (.getfield 129, 3) := by decide +kernel
theorem dX8_burns_20 : decode cX8_burns 20 = .ok (.iload_n 1, 1) := by decide +kernel
theorem dX8_burns_21 : decode cX8_burns 21 = .ok (.invokestatic 122, 3) := by decide +kernel
theorem dX8_burns_24 : decode cX8_burns 24 = .ok (.iconst 1, 1) := by decide +kernel
theorem dX8_burns_25 : decode cX8_burns 25 = .ok (.if_icmp .ne 6, 3) := by decide +kernel
theorem dX8_burns_28 : decode cX8_burns 28 = .ok (.bipush (-2), 2) := by decide +kernel
theorem dX8_burns_30 : decode cX8_burns 30 = .ok (.ireturn, 1) := by decide +kernel
theorem dX8_burns_31 : decode cX8_burns 31 = .ok (.aload_n 0, 1) := by decide +kernel
theorem dX8_burns_32 : decode cX8_burns 32 = .ok (.iload_n 1, 1) := by decide +kernel
theorem dX8_burns_33 : decode cX8_burns 33 = .ok (.invokevirtual 176, 3) := by decide +kernel
theorem dX8_burns_36 : decode cX8_burns 36 = .ok (.ireturn, 1) := by decide +kernel
theorem dX8_halts_0 : decode cX8_halts 0 = .ok (.aload_n 0, 1) := by decide +kernel
theorem dX8_halts_1 : decode cX8_halts 1 = .ok (.getfield 36, 3) := by decide +kernel
theorem dX8_halts_4 : decode cX8_halts 4 = .ok (.iload_n 1, 1) := by decide +kernel
theorem dX8_halts_5 : decode cX8_halts 5 = .ok (.invokevirtual 167, 3) := by decide +kernel
theorem dX8_halts_8 : decode cX8_halts 8 = .ok (.ifCond .ne 5, 3) := by decide +kernel
theorem dX8_halts_11 : decode cX8_halts 11 = .ok (.iconst (-1), 1) := by decide +kernel
theorem dX8_halts_12 : decode cX8_halts 12 = .ok (.ireturn, 1) := by decide +kernel
theorem dX8_halts_13 : decode cX8_halts 13 = .ok (.aload_n 0, 1) := by decide +kernel
theorem dX8_halts_14 : decode cX8_halts 14 = .ok (.iload_n 1, 1) := by decide +kernel
theorem dX8_halts_15 : decode cX8_halts 15 = .ok (.invokevirtual 176, 3) := by decide +kernel
theorem dX8_halts_18 : decode cX8_halts 18 = .ok (.ireturn, 1) := by decide +kernel
theorem dX8_undo_0 : decode cX8_undo 0 = .ok (.aload_n 0, 1) := by decide +kernel
theorem dX8_undo_1 : decode cX8_undo 1 = .ok (.getfield 46, 3) := by decide +kernel
theorem dX8_undo_4 : decode cX8_undo 4 = .ok (.getfield 108, 3) := by decide +kernel
theorem dX8_undo_7 : decode cX8_undo 7 = .ok (.ifCond .ne 6, 3) := by decide +kernel
theorem dX8_undo_10 : decode cX8_undo 10 = .ok (.bipush (-2), 2) := by decide +kernel
theorem dX8_undo_12 : decode cX8_undo 12 = .ok (.ireturn, 1) := by decide +kernel
theorem dX8_undo_13 : decode cX8_undo 13 = .ok (.aload_n 0, 1) := by decide +kernel
theorem dX8_undo_14 : decode cX8_undo 14 = .ok (.getfield 46, 3) := by decide +kernel
theorem dX8_undo_17 : decode cX8_undo 17 = .ok (.aload_n 0, 1) := by decide +kernel
theorem dX8_undo_18 : decode cX8_undo 18 = .ok (.getfield 36, 3) := by decide +kernel
theorem dX8_undo_21 : decode cX8_undo 21 = .ok (.invokevirtual 179, 3) := by decide +kernel
theorem dX8_undo_24 : decode cX8_undo 24 = .ok (.aload_n 0, 1) := by decide +kernel
theorem dX8_undo_25 : decode cX8_undo 25 = .ok (.getfield 46, 3) := by decide +kernel
theorem dX8_undo_28 : decode cX8_undo 28 = .ok (.getfield 108, 3) := by decide +kernel
theorem dX8_undo_31 : decode cX8_undo 31 = .ok (.ireturn, 1) := by decide +kernel
theorem dX8_takeAway_0 : decode cX8_takeAway 0 = .ok (.aload_n 0, 1) := by decide +kernel
theorem dX8_takeAway_1 : decode cX8_takeAway 1 = .ok (.getfield 46, 3) := by decide +kernel
theorem dX8_takeAway_4 : decode cX8_takeAway 4 = .ok (.aload_n 0, 1) := by decide +kernel
theorem dX8_takeAway_5 : decode cX8_takeAway 5 = .ok (.getfield 36, 3) := by decide +kernel
theorem dX8_takeAway_8 : decode cX8_takeAway 8 = .ok (.invokevirtual 148, 3) := by decide +kernel
theorem dX8_takeAway_11 : decode cX8_takeAway 11 = .ok (.aload_n 0, 1) := by decide +kernel
theorem dX8_takeAway_12 : decode cX8_takeAway 12 = .ok (.getfield 36, 3) := by decide +kernel
theorem dX8_takeAway_15 : decode cX8_takeAway 15 = .ok (.dup, 1) := by decide +kernel
theorem dX8_takeAway_16 : decode cX8_takeAway 16 = .ok (.getfield 132, 3) := by decide +kernel
theorem dX8_takeAway_19 : decode cX8_takeAway 19 = .ok (.iconst 1, 1) := by decide +kernel
theorem dX8_takeAway_20 : decode cX8_takeAway 20 = .ok (.iload_n 1, 1) := by decide +kernel
theorem dX8_takeAway_21 : decode cX8_takeAway 21 = .ok (.ishl, 1) := by decide +kernel
theorem dX8_takeAway_22 : decode cX8_takeAway 22 = .ok (.iconst (-1), 1) := by decide +kernel
theorem dX8_takeAway_23 : decode cX8_takeAway 23 = .ok (.ixor, 1) := by decide +kernel
theorem dX8_takeAway_24 : decode cX8_takeAway 24 = .ok (.iand, 1) := by decide +kernel
theorem dX8_takeAway_25 : decode cX8_takeAway 25 = .ok (.putfield 132, 3) := by decide +kernel
theorem dX8_takeAway_28 : decode cX8_takeAway 28 = .ok (.aload_n 0, 1) := by decide +kernel
theorem dX8_takeAway_29 : decode cX8_takeAway 29 = .ok (.getfield 36, 3) := by decide +kernel
theorem dX8_takeAway_32 : decode cX8_takeAway 32 = .ok (.getfield 132, 3) := by decide +kernel
theorem dX8_takeAway_35 : decode cX8_takeAway 35 = .ok (.invokestatic 182, 3) := by decide +kernel
theorem dX8_takeAway_38 : decode cX8_takeAway 38 = .ok (.ireturn, 1) := by decide +kernel
theorem dX8_stands_0 : decode cX8_stands 0 = .ok (.iload_n 1, 1) := by decide +kernel
theorem dX8_stands_1 : decode cX8_stands 1 = .ok (.ifCond .lt 10, 3) := by decide +kernel
theorem dX8_stands_4 : decode cX8_stands 4 = .ok (.iload_n 1, 1) := by decide +kernel
theorem dX8_stands_5 : decode cX8_stands 5 = .ok (.sipush 200, 3) := by decide +kernel
theorem dX8_stands_8 : decode cX8_stands 8 = .ok (.if_icmp .le 5, 3) := by decide +kernel
theorem dX8_stands_11 : decode cX8_stands 11 = .ok (.iconst (-1), 1) := by decide +kernel
theorem dX8_stands_12 : decode cX8_stands 12 = .ok (.ireturn, 1) := by decide +kernel
theorem dX8_stands_13 : decode cX8_stands 13 = .ok (.aload_n 0, 1) := by decide +kernel
theorem dX8_stands_14 : decode cX8_stands 14 = .ok (.invokevirtual 187, 3) := by decide +kernel
theorem dX8_stands_17 : decode cX8_stands 17 = .ok (.iconst 0, 1) := by decide +kernel
theorem dX8_stands_18 : decode cX8_stands 18 = .ok (.istore_n 2, 1) := by decide +kernel
theorem dX8_stands_19 : decode cX8_stands 19 = .ok (.iload_n 2, 1) := by decide +kernel
theorem dX8_stands_20 : decode cX8_stands 20 = .ok (.iload_n 1, 1) := by decide +kernel
theorem dX8_stands_21 : decode cX8_stands 21 = .ok (.if_icmp .ge 30, 3) := by decide +kernel
theorem dX8_stands_24 : decode cX8_stands 24 = .ok (.aload_n 0, 1) := by decide +kernel
theorem dX8_stands_25 : decode cX8_stands 25 = .ok (.getfield 40, 3) := by decide +kernel
theorem dX8_stands_28 : decode cX8_stands 28 = .ok (.aload_n 0, 1) := by decide +kernel
theorem dX8_stands_29 : decode cX8_stands 29 = .ok (.getfield 26, 3) := by decide +kernel
theorem dX8_stands_32 : decode cX8_stands 32 = .ok (.invokevirtual 151, 3) := by decide +kernel
theorem dX8_stands_35 : decode cX8_stands 35 = .ok (.aload_n 0, 1) := by decide +kernel
theorem dX8_stands_36 : decode cX8_stands 36 = .ok (.getfield 26, 3) := by decide +kernel
theorem dX8_stands_39 : decode cX8_stands 39 = .ok (.invokevirtual 155, 3) := by decide +kernel
theorem dX8_stands_42 : decode cX8_stands 42 = .ok (.invokevirtual 158, 3) := by decide +kernel
theorem dX8_stands_45 : decode cX8_stands 45 = .ok (.iinc 2 1, 3) := by decide +kernel
theorem dX8_stands_48 : decode cX8_stands 48 = .ok (.goto (-29), 3) := by decide +kernel
theorem dX8_stands_51 : decode cX8_stands 51 = .ok (.aload_n 0, 1) := by decide +kernel
theorem dX8_stands_52 : decode cX8_stands 52 = .ok (.getfield 26, 3) := by decide +kernel
theorem dX8_stands_55 : decode cX8_stands 55 = .ok (.aload_n 0, 1) := by decide +kernel
theorem dX8_stands_56 : decode cX8_stands 56 = .ok (.getfield 40, 3) := by decide +kernel
theorem dX8_stands_59 : decode cX8_stands 59 = .ok (.getfield 138, 3) := by decide +kernel
theorem dX8_stands_62 : decode cX8_stands 62 = .ok (.invokevirtual 141, 3) := by decide +kernel
theorem dX8_stands_65 : decode cX8_stands 65 = .ok (.ireturn, 1) := by decide +kernel
theorem dX8_above_0 : decode cX8_above 0 = .ok (.aload_n 0, 1) := by decide +kernel
theorem dX8_above_1 : decode cX8_above 1 = .ok (.invokevirtual 187, 3) := by decide +kernel
theorem dX8_above_4 : decode cX8_above 4 = .ok (.iconst 0, 1) := by decide +kernel
theorem dX8_above_5 : decode cX8_above 5 = .ok (.istore_n 1, 1) := by decide +kernel
theorem dX8_above_6 : decode cX8_above 6 = .ok (.iload_n 1, 1) := by decide +kernel
theorem dX8_above_7 : decode cX8_above 7 = .ok (.sipush 200, 3) := by decide +kernel
theorem dX8_above_10 : decode cX8_above 10 = .ok (.if_icmp .gt 49, 3) := by decide +kernel
theorem dX8_above_13 : decode cX8_above 13 = .ok (.aload_n 0, 1) := by decide +kernel
theorem dX8_above_14 : decode cX8_above 14 = .ok (.getfield 26, 3) := by decide +kernel
theorem dX8_above_17 : decode cX8_above 17 = .ok (.aload_n 0, 1) := by decide +kernel
theorem dX8_above_18 : decode cX8_above 18 = .ok (.getfield 40, 3) := by decide +kernel
theorem dX8_above_21 : decode cX8_above 21 = .ok (.getfield 138, 3) := by decide +kernel
theorem dX8_above_24 : decode cX8_above 24 = .ok (.invokevirtual 190, 3) := by decide +kernel
theorem dX8_above_27 : decode cX8_above 27 = .ok (.ifCond .eq 5, 3) := by decide +kernel
theorem dX8_above_30 : decode cX8_above 30 = .ok (.iload_n 1, 1) := by decide +kernel
theorem dX8_above_31 : decode cX8_above 31 = .ok (.ireturn, 1) := by decide +kernel
theorem dX8_above_32 : decode cX8_above 32 = .ok (.aload_n 0, 1) := by decide +kernel
theorem dX8_above_33 : decode cX8_above 33 = .ok (.getfield 40, 3) := by decide +kernel
theorem dX8_above_36 : decode cX8_above 36 = .ok (.aload_n 0, 1) := by decide +kernel
theorem dX8_above_37 : decode cX8_above 37 = .ok (.getfield 26, 3) := by decide +kernel
theorem dX8_above_40 : decode cX8_above 40 = .ok (.invokevirtual 151, 3) := by decide +kernel
theorem dX8_above_43 : decode cX8_above 43 = .ok (.aload_n 0, 1) := by decide +kernel
theorem dX8_above_44 : decode cX8_above 44 = .ok (.getfield 26, 3) := by decide +kernel
theorem dX8_above_47 : decode cX8_above 47 = .ok (.invokevirtual 155, 3) := by decide +kernel
theorem dX8_above_50 : decode cX8_above 50 = .ok (.invokevirtual 158, 3) := by decide +kernel
theorem dX8_above_53 : decode cX8_above 53 = .ok (.iinc 1 1, 3) := by decide +kernel
theorem dX8_above_56 : decode cX8_above 56 = .ok (.goto (-50), 3) := by decide +kernel
theorem dX8_above_59 : decode cX8_above 59 = .ok (.bipush (-9), 2) := by decide +kernel
theorem dX8_above_61 : decode cX8_above 61 = .ok (.ireturn, 1) := by decide +kernel
theorem dX8_most_0 : decode cX8_most 0 = .ok (.iload_n 1, 1) := by decide +kernel
theorem dX8_most_1 : decode cX8_most 1 = .ok (.ifCond .lt 10, 3) := by decide +kernel
theorem dX8_most_4 : decode cX8_most 4 = .ok (.iload_n 1, 1) := by decide +kernel
theorem dX8_most_5 : decode cX8_most 5 = .ok (.sipush 200, 3) := by decide +kernel
theorem dX8_most_8 : decode cX8_most 8 = .ok (.if_icmp .le 5, 3) := by decide +kernel
theorem dX8_most_11 : decode cX8_most 11 = .ok (.iconst (-1), 1) := by decide +kernel
theorem dX8_most_12 : decode cX8_most 12 = .ok (.ireturn, 1) := by decide +kernel
theorem dX8_most_13 : decode cX8_most 13 = .ok (.aload_n 0, 1) := by decide +kernel
theorem dX8_most_14 : decode cX8_most 14 = .ok (.invokevirtual 187, 3) := by decide +kernel
theorem dX8_most_17 : decode cX8_most 17 = .ok (.aload_n 0, 1) := by decide +kernel
theorem dX8_most_18 : decode cX8_most 18 = .ok (.getfield 26, 3) := by decide +kernel
theorem dX8_most_21 : decode cX8_most 21 = .ok (.aload_n 0, 1) := by decide +kernel
theorem dX8_most_22 : decode cX8_most 22 = .ok (.getfield 40, 3) := by decide +kernel
theorem dX8_most_25 : decode cX8_most 25 = .ok (.getfield 138, 3) := by decide +kernel
theorem dX8_most_28 : decode cX8_most 28 = .ok (.invokevirtual 141, 3) := by decide +kernel
theorem dX8_most_31 : decode cX8_most 31 = .ok (.istore_n 2, 1) := by decide +kernel
theorem dX8_most_32 : decode cX8_most 32 = .ok (.iconst 0, 1) := by decide +kernel
theorem dX8_most_33 : decode cX8_most 33 = .ok (.istore_n 3, 1) := by decide +kernel
theorem dX8_most_34 : decode cX8_most 34 = .ok (.iload_n 3, 1) := by decide +kernel
theorem dX8_most_35 : decode cX8_most 35 = .ok (.iload_n 1, 1) := by decide +kernel
theorem dX8_most_36 : decode cX8_most 36 = .ok (.if_icmp .ge 49, 3) := by decide +kernel
theorem dX8_most_39 : decode cX8_most 39 = .ok (.aload_n 0, 1) := by decide +kernel
theorem dX8_most_40 : decode cX8_most 40 = .ok (.getfield 40, 3) := by decide +kernel
theorem dX8_most_43 : decode cX8_most 43 = .ok (.aload_n 0, 1) := by decide +kernel
theorem dX8_most_44 : decode cX8_most 44 = .ok (.getfield 26, 3) := by decide +kernel
theorem dX8_most_47 : decode cX8_most 47 = .ok (.invokevirtual 151, 3) := by decide +kernel
theorem dX8_most_50 : decode cX8_most 50 = .ok (.aload_n 0, 1) := by decide +kernel
theorem dX8_most_51 : decode cX8_most 51 = .ok (.getfield 26, 3) := by decide +kernel
theorem dX8_most_54 : decode cX8_most 54 = .ok (.invokevirtual 155, 3) := by decide +kernel
theorem dX8_most_57 : decode cX8_most 57 = .ok (.invokevirtual 158, 3) := by decide +kernel
theorem dX8_most_60 : decode cX8_most 60 = .ok (.iload_n 2, 1) := by decide +kernel
theorem dX8_most_61 : decode cX8_most 61 = .ok (.aload_n 0, 1) := by decide +kernel
theorem dX8_most_62 : decode cX8_most 62 = .ok (.getfield 26, 3) := by decide +kernel
theorem dX8_most_65 : decode cX8_most 65 = .ok (.aload_n 0, 1) := by decide +kernel
theorem dX8_most_66 : decode cX8_most 66 = .ok (.getfield 40, 3) := by decide +kernel
theorem dX8_most_69 : decode cX8_most 69 = .ok (.getfield 138, 3) := by decide +kernel
theorem dX8_most_72 : decode cX8_most 72 = .ok (.invokevirtual 141, 3) := by decide +kernel
theorem dX8_most_75 : decode cX8_most 75 = .ok (.invokestatic 162, 3) := by decide +kernel
theorem dX8_most_78 : decode cX8_most 78 = .ok (.istore_n 2, 1) := by decide +kernel
theorem dX8_most_79 : decode cX8_most 79 = .ok (.iinc 3 1, 3) := by decide +kernel
theorem dX8_most_82 : decode cX8_most 82 = .ok (.goto (-48), 3) := by decide +kernel
theorem dX8_most_85 : decode cX8_most 85 = .ok (.iload_n 2, 1) := by decide +kernel
theorem dX8_most_86 : decode cX8_most 86 = .ok (.ireturn, 1) := by decide +kernel
theorem dX8_lookAhead_0 : decode cX8_lookAhead 0 = .ok (.aload_n 0, 1) := by decide +kernel
theorem dX8_lookAhead_1 : decode cX8_lookAhead 1 = .ok (.getfield 40, 3) := by decide +kernel
theorem dX8_lookAhead_4 : decode cX8_lookAhead 4 = .ok (.aload_n 0, 1) := by decide +kernel
theorem dX8_lookAhead_5 : decode cX8_lookAhead 5 = .ok (.getfield 36, 3) := by decide +kernel
theorem dX8_lookAhead_8 : decode cX8_lookAhead 8 = .ok (.invokevirtual 102, 3) := by decide +kernel
theorem dX8_lookAhead_11 : decode cX8_lookAhead 11 = .ok (.return_, 1) := by decide +kernel
theorem dX8_teach_0 : decode cX8_teach 0 = .ok (.aload_n 0, 1) := by decide +kernel
theorem dX8_teach_1 : decode cX8_teach 1 = .ok (.aload_n 0, 1) := by decide +kernel
theorem dX8_teach_2 : decode cX8_teach 2 = .ok (.getfield 36, 3) := by decide +kernel
theorem dX8_teach_5 : decode cX8_teach 5 = .ok (.getfield 132, 3) := by decide +kernel
theorem dX8_teach_8 : decode cX8_teach 8 = .ok (.aload_n 0, 1) := by decide +kernel
theorem dX8_teach_9 : decode cX8_teach 9 = .ok (.getfield 36, 3) := by decide +kernel
theorem dX8_teach_12 : decode cX8_teach 12 = .ok (.getfield 119, 3) := by decide +kernel
theorem dX8_teach_15 : decode cX8_teach 15 = .ok (.iconst (-1), 1) := by decide +kernel
theorem dX8_teach_16 : decode cX8_teach 16 = .ok (.ixor, 1) := by decide +kernel
theorem dX8_teach_17 : decode cX8_teach 17 = .ok (.iand, 1) := by decide +kernel
theorem dX8_teach_18 : decode cX8_teach 18 = .ok (.iconst 1, 1) := by decide +kernel
theorem dX8_teach_19 : decode cX8_teach 19 = .ok (.iload_n 1, 1) := by decide +kernel
theorem dX8_teach_20 : decode cX8_teach 20 = .ok (.invokevirtual 193, 3) := by decide +kernel
theorem dX8_teach_23 : decode cX8_teach 23 = .ok (.ireturn, 1) := by decide +kernel
theorem dX8_burn_0 : decode cX8_burn 0 = .ok (.aload_n 0, 1) := by decide +kernel
theorem dX8_burn_1 : decode cX8_burn 1 = .ok (.aload_n 0, 1) := by decide +kernel
theorem dX8_burn_2 : decode cX8_burn 2 = .ok (.getfield 36, 3) := by decide +kernel
theorem dX8_burn_5 : decode cX8_burn 5 = .ok (.getfield 132, 3) := by decide +kernel
theorem dX8_burn_8 : decode cX8_burn 8 = .ok (.aload_n 0, 1) := by decide +kernel
theorem dX8_burn_9 : decode cX8_burn 9 = .ok (.getfield 36, 3) := by decide +kernel
theorem dX8_burn_12 : decode cX8_burn 12 = .ok (.getfield 129, 3) := by decide +kernel
theorem dX8_burn_15 : decode cX8_burn 15 = .ok (.iconst (-1), 1) := by decide +kernel
theorem dX8_burn_16 : decode cX8_burn 16 = .ok (.ixor, 1) := by decide +kernel
theorem dX8_burn_17 : decode cX8_burn 17 = .ok (.iand, 1) := by decide +kernel
theorem dX8_burn_18 : decode cX8_burn 18 = .ok (.iconst 0, 1) := by decide +kernel
theorem dX8_burn_19 : decode cX8_burn 19 = .ok (.iload_n 1, 1) := by decide +kernel
theorem dX8_burn_20 : decode cX8_burn 20 = .ok (.invokevirtual 193, 3) := by decide +kernel
theorem dX8_burn_23 : decode cX8_burn 23 = .ok (.ireturn, 1) := by decide +kernel
theorem dX8_stair_0 : decode cX8_stair 0 = .ok (.iload_n 1, 1) := by decide +kernel
theorem dX8_stair_1 : decode cX8_stair 1 = .ok (.invokestatic 197, 3) := by decide +kernel
theorem dX8_stair_4 : decode cX8_stair 4 = .ok (.ifCond .ne 5, 3) := by decide +kernel
theorem dX8_stair_7 : decode cX8_stair 7 = .ok (.iconst (-1), 1) := by decide +kernel
theorem dX8_stair_8 : decode cX8_stair 8 = .ok (.ireturn, 1) := by decide +kernel
theorem dX8_stair_9 : decode cX8_stair 9 = .ok (.bipush 8, 2) := by decide +kernel
theorem dX8_stair_11 : decode cX8_stair 11 = .ok (.istore_n 2, 1) := by decide +kernel
theorem dX8_stair_12 : decode cX8_stair 12 = .ok (.iload_n 2, 1) := by decide +kernel
theorem dX8_stair_13 : decode cX8_stair 13 = .ok (.iconst 1, 1) := by decide +kernel
theorem dX8_stair_14 : decode cX8_stair 14 = .ok (.if_icmp .lt 31, 3) := by decide +kernel
theorem dX8_stair_17 : decode cX8_stair 17 = .ok (.aload_n 0, 1) := by decide +kernel
theorem dX8_stair_18 : decode cX8_stair 18 = .ok (.invokevirtual 187, 3) := by decide +kernel
theorem dX8_stair_21 : decode cX8_stair 21 = .ok (.aload_n 0, 1) := by decide +kernel
theorem dX8_stair_22 : decode cX8_stair 22 = .ok (.iload_n 2, 1) := by decide +kernel
theorem dX8_stair_23 : decode cX8_stair 23 = .ok (.aload_n 0, 1) := by decide +kernel
theorem dX8_stair_24 : decode cX8_stair 24 = .ok (.getfield 26, 3) := by decide +kernel
theorem dX8_stair_27 : decode cX8_stair 27 = .ok (.invokevirtual 155, 3) := by decide +kernel
theorem dX8_stair_30 : decode cX8_stair 30 = .ok (.iload_n 1, 1) := by decide +kernel
theorem dX8_stair_31 : decode cX8_stair 31 = .ok (.invokevirtual 200, 3) := by decide +kernel
theorem dX8_stair_34 : decode cX8_stair 34 = .ok (.ifCond .eq 5, 3) := by decide +kernel
theorem dX8_stair_37 : decode cX8_stair 37 = .ok (.iload_n 2, 1) := by decide +kernel
theorem dX8_stair_38 : decode cX8_stair 38 = .ok (.ireturn, 1) := by decide +kernel
theorem dX8_stair_39 : decode cX8_stair 39 = .ok (.iinc 2 (-1), 3) := by decide +kernel
theorem dX8_stair_42 : decode cX8_stair 42 = .ok (.goto (-30), 3) := by decide +kernel
theorem dX8_stair_45 : decode cX8_stair 45 = .ok (.bipush (-9), 2) := by decide +kernel
theorem dX8_stair_47 : decode cX8_stair 47 = .ok (.ireturn, 1) := by decide +kernel
theorem dX8_drain_0 : decode cX8_drain 0 = .ok (.iload_n 1, 1) := by decide +kernel
theorem dX8_drain_1 : decode cX8_drain 1 = .ok (.invokestatic 197, 3) := by decide +kernel
theorem dX8_drain_4 : decode cX8_drain 4 = .ok (.ifCond .ne 5, 3) := by decide +kernel
theorem dX8_drain_7 : decode cX8_drain 7 = .ok (.iconst (-1), 1) := by decide +kernel
theorem dX8_drain_8 : decode cX8_drain 8 = .ok (.ireturn, 1) := by decide +kernel
theorem dX8_drain_9 : decode cX8_drain 9 = .ok (.iconst 0, 1) := by decide +kernel
theorem dX8_drain_10 : decode cX8_drain 10 = .ok (.istore_n 2, 1) := by decide +kernel
theorem dX8_drain_11 : decode cX8_drain 11 = .ok (.iload_n 2, 1) := by decide +kernel
theorem dX8_drain_12 : decode cX8_drain 12 = .ok (.bipush 20, 2) := by decide +kernel
theorem dX8_drain_14 : decode cX8_drain 14 = .ok (.if_icmp .gt 31, 3) := by decide +kernel
theorem dX8_drain_17 : decode cX8_drain 17 = .ok (.aload_n 0, 1) := by decide +kernel
theorem dX8_drain_18 : decode cX8_drain 18 = .ok (.invokevirtual 187, 3) := by decide +kernel
theorem dX8_drain_21 : decode cX8_drain 21 = .ok (.aload_n 0, 1) := by decide +kernel
theorem dX8_drain_22 : decode cX8_drain 22 = .ok (.aload_n 0, 1) := by decide +kernel
theorem dX8_drain_23 : decode cX8_drain 23 = .ok (.getfield 26, 3) := by decide +kernel
theorem dX8_drain_26 : decode cX8_drain 26 = .ok (.invokevirtual 151, 3) := by decide +kernel
theorem dX8_drain_29 : decode cX8_drain 29 = .ok (.iload_n 2, 1) := by decide +kernel
theorem dX8_drain_30 : decode cX8_drain 30 = .ok (.iload_n 1, 1) := by decide +kernel
theorem dX8_drain_31 : decode cX8_drain 31 = .ok (.invokevirtual 200, 3) := by decide +kernel
theorem dX8_drain_34 : decode cX8_drain 34 = .ok (.ifCond .eq 5, 3) := by decide +kernel
theorem dX8_drain_37 : decode cX8_drain 37 = .ok (.iload_n 2, 1) := by decide +kernel
theorem dX8_drain_38 : decode cX8_drain 38 = .ok (.ireturn, 1) := by decide +kernel
theorem dX8_drain_39 : decode cX8_drain 39 = .ok (.iinc 2 1, 3) := by decide +kernel
theorem dX8_drain_42 : decode cX8_drain 42 = .ok (.goto (-31), 3) := by decide +kernel
theorem dX8_drain_45 : decode cX8_drain 45 = .ok (.bipush (-9), 2) := by decide +kernel
theorem dX8_drain_47 : decode cX8_drain 47 = .ok (.ireturn, 1) := by decide +kernel
theorem dX8_isPlanned_0 : decode cX8_isPlanned 0 = .ok (.iload_n 0, 1) := by decide +kernel
theorem dX8_isPlanned_1 : decode cX8_isPlanned 1 = .ok (.iconst 1, 1) := by decide +kernel
theorem dX8_isPlanned_2 : decode cX8_isPlanned 2 = .ok (.if_icmp .lt 13, 3) := by decide +kernel
theorem dX8_isPlanned_5 : decode cX8_isPlanned 5 = .ok (.iload_n 0, 1) := by decide +kernel
theorem dX8_isPlanned_6 : decode cX8_isPlanned 6 = .ok (.bipush 60, 2) := by decide +kernel
theorem dX8_isPlanned_8 : decode cX8_isPlanned 8 = .ok (.if_icmp .gt 7, 3) := by decide +kernel
theorem dX8_isPlanned_11 : decode cX8_isPlanned 11 = .ok (.iconst 1, 1) := by decide +kernel
theorem dX8_isPlanned_12 : decode cX8_isPlanned 12 = .ok (.goto 4, 3) := by decide +kernel
theorem dX8_isPlanned_15 : decode cX8_isPlanned 15 = .ok (.iconst 0, 1) := by decide +kernel
theorem dX8_isPlanned_16 : decode cX8_isPlanned 16 = .ok (.ireturn, 1) := by decide +kernel
theorem dX8_fewest_0 : decode cX8_fewest 0 = .ok (.iload_n 3, 1) := by decide +kernel
theorem dX8_fewest_1 : decode cX8_fewest 1 = .ok (.invokestatic 197, 3) := by decide +kernel
theorem dX8_fewest_4 : decode cX8_fewest 4 = .ok (.ifCond .ne 5, 3) := by decide +kernel
theorem dX8_fewest_7 : decode cX8_fewest 7 = .ok (.iconst (-1), 1) := by decide +kernel
theorem dX8_fewest_8 : decode cX8_fewest 8 = .ok (.ireturn, 1) := by decide +kernel
theorem dX8_fewest_9 : decode cX8_fewest 9 = .ok (.bipush (-9), 2) := by decide +kernel
theorem dX8_fewest_11 : decode cX8_fewest 11 = .ok (.istore 4, 2) := by decide +kernel
theorem dX8_fewest_13 : decode cX8_fewest 13 = .ok (.bipush 9, 2) := by decide +kernel
theorem dX8_fewest_15 : decode cX8_fewest 15 = .ok (.istore 5, 2) := by decide +kernel
theorem dX8_fewest_17 : decode cX8_fewest 17 = .ok (.iconst 0, 1) := by decide +kernel
theorem dX8_fewest_18 : decode cX8_fewest 18 = .ok (.istore 6, 2) := by decide +kernel
theorem dX8_fewest_20 : decode cX8_fewest 20 = .ok (.iload 6, 2) := by decide +kernel
theorem dX8_fewest_22 : decode cX8_fewest 22 = .ok (.iload_n 1, 1) := by decide +kernel
theorem dX8_fewest_23 : decode cX8_fewest 23 = .ok (.if_icmp .gt 62, 3) := by decide +kernel
theorem dX8_fewest_26 : decode cX8_fewest 26 = .ok (.iload 6, 2) := by decide +kernel
theorem dX8_fewest_28 : decode cX8_fewest 28 = .ok (.iload_n 1, 1) := by decide +kernel
theorem dX8_fewest_29 : decode cX8_fewest 29 = .ok (.iconst (-1), 1) := by decide +kernel
theorem dX8_fewest_30 : decode cX8_fewest 30 = .ok (.ixor, 1) := by decide +kernel
theorem dX8_fewest_31 : decode cX8_fewest 31 = .ok (.iand, 1) := by decide +kernel
theorem dX8_fewest_32 : decode cX8_fewest 32 = .ok (.ifCond .ne 17, 3) := by decide +kernel
theorem dX8_fewest_35 : decode cX8_fewest 35 = .ok (.iload 6, 2) := by decide +kernel
theorem dX8_fewest_37 : decode cX8_fewest 37 = .ok (.invokestatic 182, 3) := by decide +kernel
theorem dX8_fewest_40 : decode cX8_fewest 40 = .ok (.iload 5, 2) := by decide +kernel
theorem dX8_fewest_42 : decode cX8_fewest 42 = .ok (.if_icmp .ge 7, 3) := by decide +kernel
theorem dX8_fewest_45 : decode cX8_fewest 45 = .ok (.iconst 1, 1) := by decide +kernel
theorem dX8_fewest_46 : decode cX8_fewest 46 = .ok (.goto 4, 3) := by decide +kernel
theorem dX8_fewest_49 : decode cX8_fewest 49 = .ok (.iconst 0, 1) := by decide +kernel
theorem dX8_fewest_50 : decode cX8_fewest 50 = .ok (.istore 7, 2) := by decide +kernel
theorem dX8_fewest_52 : decode cX8_fewest 52 = .ok (.iload 7, 2) := by decide +kernel
theorem dX8_fewest_54 : decode cX8_fewest 54 = .ok (.ifCond .eq 25, 3) := by decide +kernel
theorem dX8_fewest_57 : decode cX8_fewest 57 = .ok (.aload_n 0, 1) := by decide +kernel
theorem dX8_fewest_58 : decode cX8_fewest 58 = .ok (.iload 6, 2) := by decide +kernel
theorem dX8_fewest_60 : decode cX8_fewest 60 = .ok (.iload_n 2, 1) := by decide +kernel
theorem dX8_fewest_61 : decode cX8_fewest 61 = .ok (.iload_n 3, 1) := by decide +kernel
theorem dX8_fewest_62 : decode cX8_fewest 62 = .ok (.invokevirtual 204, 3) := by decide +kernel
theorem dX8_fewest_65 : decode cX8_fewest 65 = .ok (.ifCond .eq 14, 3) := by decide +kernel
theorem dX8_fewest_68 : decode cX8_fewest 68 = .ok (.iload 6, 2) := by decide +kernel
theorem dX8_fewest_70 : decode cX8_fewest 70 = .ok (.istore 4, 2) := by decide +kernel
theorem dX8_fewest_72 : decode cX8_fewest 72 = .ok (.iload 6, 2) := by decide +kernel
theorem dX8_fewest_74 : decode cX8_fewest 74 = .ok (.invokestatic 182, 3) := by decide +kernel
theorem dX8_fewest_77 : decode cX8_fewest 77 = .ok (.istore 5, 2) := by decide +kernel
theorem dX8_fewest_79 : decode cX8_fewest 79 = .ok (.iinc 6 1, 3) := by decide +kernel
theorem dX8_fewest_82 : decode cX8_fewest 82 = .ok (.goto (-62), 3) := by decide +kernel
theorem dX8_fewest_85 : decode cX8_fewest 85 = .ok (.iload 4, 2) := by decide +kernel
theorem dX8_fewest_87 : decode cX8_fewest 87 = .ok (.ireturn, 1) := by decide +kernel
theorem dX8_helps_0 : decode cX8_helps 0 = .ok (.aload_n 0, 1) := by decide +kernel
theorem dX8_helps_1 : decode cX8_helps 1 = .ok (.invokevirtual 187, 3) := by decide +kernel
theorem dX8_helps_4 : decode cX8_helps 4 = .ok (.iload_n 2, 1) := by decide +kernel
theorem dX8_helps_5 : decode cX8_helps 5 = .ok (.ifCond .eq 19, 3) := by decide +kernel
theorem dX8_helps_8 : decode cX8_helps 8 = .ok (.aload_n 0, 1) := by decide +kernel
theorem dX8_helps_9 : decode cX8_helps 9 = .ok (.getfield 40, 3) := by decide +kernel
theorem dX8_helps_12 : decode cX8_helps 12 = .ok (.dup, 1) := by decide +kernel
theorem dX8_helps_13 : decode cX8_helps 13 = .ok (.getfield 119, 3) := by decide +kernel
theorem dX8_helps_16 : decode cX8_helps 16 = .ok (.iload_n 1, 1) := by decide +kernel
theorem dX8_helps_17 : decode cX8_helps 17 = .ok (.ior, 1) := by decide +kernel
theorem dX8_helps_18 : decode cX8_helps 18 = .ok (.putfield 119, 3) := by decide +kernel
theorem dX8_helps_21 : decode cX8_helps 21 = .ok (.goto 18, 3) := by decide +kernel
theorem dX8_helps_24 : decode cX8_helps 24 = .ok (.aload_n 0, 1) := by decide +kernel
theorem dX8_helps_25 : decode cX8_helps 25 = .ok (.getfield 40, 3) := by decide +kernel
theorem dX8_helps_28 : decode cX8_helps 28 = .ok (.dup, 1) := by decide +kernel
theorem dX8_helps_29 : decode cX8_helps 29 = .ok (.getfield 132, 3) := by decide +kernel
theorem dX8_helps_32 : decode cX8_helps 32 = .ok (.iload_n 1, 1) := by decide +kernel
theorem dX8_helps_33 : decode cX8_helps 33 = .ok (.iconst (-1), 1) := by decide +kernel
theorem dX8_helps_34 : decode cX8_helps 34 = .ok (.ixor, 1) := by decide +kernel
theorem dX8_helps_35 : decode cX8_helps 35 = .ok (.iand, 1) := by decide +kernel
theorem dX8_helps_36 : decode cX8_helps 36 = .ok (.putfield 132, 3) := by decide +kernel
theorem dX8_helps_39 : decode cX8_helps 39 = .ok (.aload_n 0, 1) := by decide +kernel
theorem dX8_helps_40 : decode cX8_helps 40 = .ok (.aload_n 0, 1) := by decide +kernel
theorem dX8_helps_41 : decode cX8_helps 41 = .ok (.getfield 26, 3) := by decide +kernel
theorem dX8_helps_44 : decode cX8_helps 44 = .ok (.invokevirtual 151, 3) := by decide +kernel
theorem dX8_helps_47 : decode cX8_helps 47 = .ok (.aload_n 0, 1) := by decide +kernel
theorem dX8_helps_48 : decode cX8_helps 48 = .ok (.getfield 26, 3) := by decide +kernel
theorem dX8_helps_51 : decode cX8_helps 51 = .ok (.invokevirtual 155, 3) := by decide +kernel
theorem dX8_helps_54 : decode cX8_helps 54 = .ok (.iload_n 3, 1) := by decide +kernel
theorem dX8_helps_55 : decode cX8_helps 55 = .ok (.invokevirtual 200, 3) := by decide +kernel
theorem dX8_helps_58 : decode cX8_helps 58 = .ok (.ireturn, 1) := by decide +kernel
theorem dX8_staysAtMark_0 : decode cX8_staysAtMark 0 = .ok (.aload_n 0, 1) := by decide +kernel
theorem dX8_staysAtMark_1 : decode cX8_staysAtMark 1 = .ok (.getfield 26, 3) := by decide +kernel
theorem dX8_staysAtMark_4 : decode cX8_staysAtMark 4 = .ok (.aload_n 0, 1) := by decide +kernel
theorem dX8_staysAtMark_5 : decode cX8_staysAtMark 5 = .ok (.getfield 40, 3) := by decide +kernel
theorem dX8_staysAtMark_8 : decode cX8_staysAtMark 8 = .ok (.getfield 138, 3) := by decide +kernel
theorem dX8_staysAtMark_11 : decode cX8_staysAtMark 11 = .ok (.invokevirtual 190, 3) := by decide +kernel
theorem dX8_staysAtMark_14 : decode cX8_staysAtMark 14 = .ok (.istore 4, 2) := by decide +kernel
theorem dX8_staysAtMark_16 : decode cX8_staysAtMark 16 = .ok (.iconst 0, 1) := by decide +kernel
theorem dX8_staysAtMark_17 : decode cX8_staysAtMark 17 = .ok (.istore 5, 2) := by decide +kernel
theorem dX8_staysAtMark_19 : decode cX8_staysAtMark 19 = .ok (.iload 5, 2) := by decide +kernel
theorem dX8_staysAtMark_21 : decode cX8_staysAtMark 21 = .ok (.iload_n 3, 1) := by decide +kernel
theorem dX8_staysAtMark_22 : decode cX8_staysAtMark 22 = .ok (.if_icmp .ge 39, 3) := by decide +kernel
theorem dX8_staysAtMark_25 : decode cX8_staysAtMark 25 = .ok (.iload 4, 2) := by decide +kernel
theorem dX8_staysAtMark_27 : decode cX8_staysAtMark 27 = .ok (.ifCond .ne 34, 3) := by decide +kernel
theorem dX8_staysAtMark_30 : decode cX8_staysAtMark 30 = .ok (.aload_n 0, 1) := by decide +kernel
theorem dX8_staysAtMark_31 : decode cX8_staysAtMark 31 = .ok (.getfield 40, 3) := by decide +kernel
theorem dX8_staysAtMark_34 : decode cX8_staysAtMark 34 = .ok (.iload_n 1, 1) := by decide +kernel
theorem dX8_staysAtMark_35 : decode cX8_staysAtMark 35 = .ok (.iload_n 2, 1) := by decide +kernel
theorem dX8_staysAtMark_36 : decode cX8_staysAtMark 36 = .ok (.invokevirtual 158, 3) := by decide +kernel
theorem dX8_staysAtMark_39 : decode cX8_staysAtMark 39 = .ok (.aload_n 0, 1) := by decide +kernel
theorem dX8_staysAtMark_40 : decode cX8_staysAtMark 40 = .ok (.getfield 26, 3) := by decide +kernel
theorem dX8_staysAtMark_43 : decode cX8_staysAtMark 43 = .ok (.aload_n 0, 1) := by decide +kernel
theorem dX8_staysAtMark_44 : decode cX8_staysAtMark 44 = .ok (.getfield 40, 3) := by decide +kernel
theorem dX8_staysAtMark_47 : decode cX8_staysAtMark 47 = .ok (.getfield 138, 3) := by decide +kernel
end
section
theorem dX8_staysAtMark_50 : decode cX8_staysAtMark 50 = .ok (.invokevirtual 190, 3) := by decide +kernel
theorem dX8_staysAtMark_53 : decode cX8_staysAtMark 53 = .ok (.istore 4, 2) := by decide +kernel
theorem dX8_staysAtMark_55 : decode cX8_staysAtMark 55 = .ok (.iinc 5 1, 3) := by decide +kernel
theorem dX8_staysAtMark_58 : decode cX8_staysAtMark 58 = .ok (.goto (-39), 3) := by decide +kernel
theorem dX8_staysAtMark_61 : decode cX8_staysAtMark 61 = .ok (.iload 4, 2) := by decide +kernel
theorem dX8_staysAtMark_63 : decode cX8_staysAtMark 63 = .ok (.ifCond .ne 7, 3) := by decide +kernel
theorem dX8_staysAtMark_66 : decode cX8_staysAtMark 66 = .ok (.iconst 1, 1) := by decide +kernel
theorem dX8_staysAtMark_67 : decode cX8_staysAtMark 67 = .ok (.goto 4, 3) := by decide +kernel
theorem dX8_staysAtMark_70 : decode cX8_staysAtMark 70 = .ok (.iconst 0, 1) := by decide +kernel
theorem dX8_staysAtMark_71 : decode cX8_staysAtMark 71 = .ok (.ireturn, 1) := by decide +kernel
theorem dX8_flow_0 : decode cX8_flow 0 = .ok (.iload_n 1, 1) := by decide +kernel
theorem dX8_flow_1 : decode cX8_flow 1 = .ok (.ifCond .eq 12, 3) := by decide +kernel
theorem dX8_flow_4 : decode cX8_flow 4 = .ok (.iload_n 1, 1) := by decide +kernel
theorem dX8_flow_5 : decode cX8_flow 5 = .ok (.iconst 1, 1) := by decide +kernel
theorem dX8_flow_6 : decode cX8_flow 6 = .ok (.if_icmp .eq 7, 3) := by decide +kernel
theorem dX8_flow_9 : decode cX8_flow 9 = .ok (.ldc2_w 208, 3) := by decide +kernel
theorem dX8_flow_12 : decode cX8_flow 12 = .ok (.lreturn, 1) := by decide +kernel
theorem dX8_flow_13 : decode cX8_flow 13 = .ok (.aload_n 0, 1) := by decide +kernel
theorem dX8_flow_14 : decode cX8_flow 14 = .ok (.getfield 68, 3) := by decide +kernel
theorem dX8_flow_17 : decode cX8_flow 17 = .ok (.lconst 0, 1) := by decide +kernel
theorem dX8_flow_18 : decode cX8_flow 18 = .ok (.lconst 1, 1) := by decide +kernel
theorem dX8_flow_19 : decode cX8_flow 19 = .ok (.invokevirtual 210, 3) := by decide +kernel
theorem dX8_flow_22 : decode cX8_flow 22 = .ok (.iconst 0, 1) := by decide +kernel
theorem dX8_flow_23 : decode cX8_flow 23 = .ok (.istore_n 2, 1) := by decide +kernel
theorem dX8_flow_24 : decode cX8_flow 24 = .ok (.iload_n 2, 1) := by decide +kernel
theorem dX8_flow_25 : decode cX8_flow 25 = .ok (.bipush 8, 2) := by decide +kernel
theorem dX8_flow_27 : decode cX8_flow 27 = .ok (.if_icmp .ge 69, 3) := by decide +kernel
theorem dX8_flow_30 : decode cX8_flow 30 = .ok (.aload_n 0, 1) := by decide +kernel
theorem dX8_flow_31 : decode cX8_flow 31 = .ok (.getfield 36, 3) := by decide +kernel
theorem dX8_flow_34 : decode cX8_flow 34 = .ok (.iload_n 2, 1) := by decide +kernel
theorem dX8_flow_35 : decode cX8_flow 35 = .ok (.invokevirtual 167, 3) := by decide +kernel
theorem dX8_flow_38 : decode cX8_flow 38 = .ok (.ifCond .eq 52, 3) := by decide +kernel
theorem dX8_flow_41 : decode cX8_flow 41 = .ok (.aload_n 0, 1) := by decide +kernel
theorem dX8_flow_42 : decode cX8_flow 42 = .ok (.getfield 36, 3) := by decide +kernel
theorem dX8_flow_45 : decode cX8_flow 45 = .ok (.iload_n 2, 1) := by decide +kernel
theorem dX8_flow_46 : decode cX8_flow 46 = .ok (.invokevirtual 214, 3) := by decide +kernel
theorem dX8_flow_49 : decode cX8_flow 49 = .ok (.istore_n 3, 1) := by decide +kernel
theorem dX8_flow_50 : decode cX8_flow 50 = .ok (.aload_n 0, 1) := by decide +kernel
theorem dX8_flow_51 : decode cX8_flow 51 = .ok (.getfield 68, 3) := by decide +kernel
theorem dX8_flow_54 : decode cX8_flow 54 = .ok (.aload_n 0, 1) := by decide +kernel
theorem dX8_flow_55 : decode cX8_flow 55 = .ok (.getfield 36, 3) := by decide +kernel
theorem dX8_flow_58 : decode cX8_flow 58 = .ok (.getfield 119, 3) := by decide +kernel
theorem dX8_flow_61 : decode cX8_flow 61 = .ok (.iload_n 2, 1) := by decide +kernel
theorem dX8_flow_62 : decode cX8_flow 62 = .ok (.invokestatic 122, 3) := by decide +kernel
theorem dX8_flow_65 : decode cX8_flow 65 = .ok (.iconst 1, 1) := by decide +kernel
theorem dX8_flow_66 : decode cX8_flow 66 = .ok (.if_icmp .ne 9, 3) := by decide +kernel
theorem dX8_flow_69 : decode cX8_flow 69 = .ok (.iload_n 3, 1) := by decide +kernel
theorem dX8_flow_70 : decode cX8_flow 70 = .ok (.ineg, 1) := by decide +kernel
theorem dX8_flow_71 : decode cX8_flow 71 = .ok (.i2l, 1) := by decide +kernel
theorem dX8_flow_72 : decode cX8_flow 72 = .ok (.goto 5, 3) := by decide +kernel
theorem dX8_flow_75 : decode cX8_flow 75 = .ok (.iload_n 3, 1) := by decide +kernel
theorem dX8_flow_76 : decode cX8_flow 76 = .ok (.i2l, 1) := by decide +kernel
theorem dX8_flow_77 : decode cX8_flow 77 = .ok (.aload_n 0, 1) := by decide +kernel
theorem dX8_flow_78 : decode cX8_flow 78 = .ok (.getfield 36, 3) := by decide +kernel
theorem dX8_flow_81 : decode cX8_flow 81 = .ok (.getfield 113, 3) := by decide +kernel
theorem dX8_flow_84 : decode cX8_flow 84 = .ok (.iload_n 2, 1) := by decide +kernel
theorem dX8_flow_85 : decode cX8_flow 85 = .ok (.iaload, 1) := by decide +kernel
theorem dX8_flow_86 : decode cX8_flow 86 = .ok (.i2l, 1) := by decide +kernel
theorem dX8_flow_87 : decode cX8_flow 87 = .ok (.invokevirtual 217, 3) := by decide +kernel
theorem dX8_flow_90 : decode cX8_flow 90 = .ok (.iinc 2 1, 3) := by decide +kernel
theorem dX8_flow_93 : decode cX8_flow 93 = .ok (.goto (-69), 3) := by decide +kernel
theorem dX8_flow_96 : decode cX8_flow 96 = .ok (.aload_n 0, 1) := by decide +kernel
theorem dX8_flow_97 : decode cX8_flow 97 = .ok (.getfield 68, 3) := by decide +kernel
theorem dX8_flow_100 : decode cX8_flow 100 = .ok (.iload_n 1, 1) := by decide +kernel
theorem dX8_flow_101 : decode cX8_flow 101 = .ok (.invokevirtual 220, 3) := by decide +kernel
theorem dX8_flow_104 : decode cX8_flow 104 = .ok (.lreturn, 1) := by decide +kernel
theorem dX8_splitOn_0 : decode cX8_splitOn 0 = .ok (.aload_n 0, 1) := by decide +kernel
theorem dX8_splitOn_1 : decode cX8_splitOn 1 = .ok (.getfield 36, 3) := by decide +kernel
theorem dX8_splitOn_4 : decode cX8_splitOn 4 = .ok (.iload_n 1, 1) := by decide +kernel
theorem dX8_splitOn_5 : decode cX8_splitOn 5 = .ok (.invokevirtual 167, 3) := by decide +kernel
theorem dX8_splitOn_8 : decode cX8_splitOn 8 = .ok (.ifCond .eq 22, 3) := by decide +kernel
theorem dX8_splitOn_11 : decode cX8_splitOn 11 = .ok (.iload_n 2, 1) := by decide +kernel
theorem dX8_splitOn_12 : decode cX8_splitOn 12 = .ok (.ifCond .lt 18, 3) := by decide +kernel
theorem dX8_splitOn_15 : decode cX8_splitOn 15 = .ok (.iload_n 2, 1) := by decide +kernel
theorem dX8_splitOn_16 : decode cX8_splitOn 16 = .ok (.bipush 6, 2) := by decide +kernel
theorem dX8_splitOn_18 : decode cX8_splitOn 18 = .ok (.if_icmp .gt 12, 3) := by decide +kernel
theorem dX8_splitOn_21 : decode cX8_splitOn 21 = .ok (.iload_n 3, 1) := by decide +kernel
theorem dX8_splitOn_22 : decode cX8_splitOn 22 = .ok (.ifCond .lt 8, 3) := by decide +kernel
theorem dX8_splitOn_25 : decode cX8_splitOn 25 = .ok (.iload_n 3, 1) := by decide +kernel
theorem dX8_splitOn_26 : decode cX8_splitOn 26 = .ok (.iconst 1, 1) := by decide +kernel
theorem dX8_splitOn_27 : decode cX8_splitOn 27 = .ok (.if_icmp .le 5, 3) := by decide +kernel
theorem dX8_splitOn_30 : decode cX8_splitOn 30 = .ok (.iconst (-1), 1) := by decide +kernel
theorem dX8_splitOn_31 : decode cX8_splitOn 31 = .ok (.ireturn, 1) := by decide +kernel
theorem dX8_splitOn_32 : decode cX8_splitOn 32 = .ok (.aload_n 0, 1) := by decide +kernel
theorem dX8_splitOn_33 : decode cX8_splitOn 33 = .ok (.getfield 36, 3) := by decide +kernel
theorem dX8_splitOn_36 : decode cX8_splitOn 36 = .ok (.getfield 109, 3) := by decide +kernel
theorem dX8_splitOn_39 : decode cX8_splitOn 39 = .ok (.iload_n 1, 1) := by decide +kernel
theorem dX8_splitOn_40 : decode cX8_splitOn 40 = .ok (.iaload, 1) := by decide +kernel
theorem dX8_splitOn_41 : decode cX8_splitOn 41 = .ok (.iload_n 2, 1) := by decide +kernel
theorem dX8_splitOn_42 : decode cX8_splitOn 42 = .ok (.ishr, 1) := by decide +kernel
theorem dX8_splitOn_43 : decode cX8_splitOn 43 = .ok (.istore 4, 2) := by decide +kernel
theorem dX8_splitOn_45 : decode cX8_splitOn 45 = .ok (.iload 4, 2) := by decide +kernel
theorem dX8_splitOn_47 : decode cX8_splitOn 47 = .ok (.ifCond .ne 7, 3) := by decide +kernel
theorem dX8_splitOn_50 : decode cX8_splitOn 50 = .ok (.iconst 0, 1) := by decide +kernel
theorem dX8_splitOn_51 : decode cX8_splitOn 51 = .ok (.goto 6, 3) := by decide +kernel
theorem dX8_splitOn_54 : decode cX8_splitOn 54 = .ok (.iconst 1, 1) := by decide +kernel
theorem dX8_splitOn_55 : decode cX8_splitOn 55 = .ok (.iload_n 2, 1) := by decide +kernel
theorem dX8_splitOn_56 : decode cX8_splitOn 56 = .ok (.ishl, 1) := by decide +kernel
theorem dX8_splitOn_57 : decode cX8_splitOn 57 = .ok (.istore 5, 2) := by decide +kernel
theorem dX8_splitOn_59 : decode cX8_splitOn 59 = .ok (.iload_n 3, 1) := by decide +kernel
theorem dX8_splitOn_60 : decode cX8_splitOn 60 = .ok (.ifCond .ne 8, 3) := by decide +kernel
theorem dX8_splitOn_63 : decode cX8_splitOn 63 = .ok (.iload 5, 2) := by decide +kernel
theorem dX8_splitOn_65 : decode cX8_splitOn 65 = .ok (.goto 8, 3) := by decide +kernel
theorem dX8_splitOn_68 : decode cX8_splitOn 68 = .ok (.iload 5, 2) := by decide +kernel
theorem dX8_splitOn_70 : decode cX8_splitOn 70 = .ok (.iload 4, 2) := by decide +kernel
theorem dX8_splitOn_72 : decode cX8_splitOn 72 = .ok (.imul, 1) := by decide +kernel
theorem dX8_splitOn_73 : decode cX8_splitOn 73 = .ok (.ireturn, 1) := by decide +kernel
theorem dX8_price_0 : decode cX8_price 0 = .ok (.iload_n 1, 1) := by decide +kernel
theorem dX8_price_1 : decode cX8_price 1 = .ok (.iconst 1, 1) := by decide +kernel
theorem dX8_price_2 : decode cX8_price 2 = .ok (.if_icmp .lt 20, 3) := by decide +kernel
theorem dX8_price_5 : decode cX8_price 5 = .ok (.iload_n 1, 1) := by decide +kernel
theorem dX8_price_6 : decode cX8_price 6 = .ok (.bipush 9, 2) := by decide +kernel
theorem dX8_price_8 : decode cX8_price 8 = .ok (.if_icmp .gt 14, 3) := by decide +kernel
theorem dX8_price_11 : decode cX8_price 11 = .ok (.iload_n 2, 1) := by decide +kernel
theorem dX8_price_12 : decode cX8_price 12 = .ok (.ifCond .lt 10, 3) := by decide +kernel
theorem dX8_price_15 : decode cX8_price 15 = .ok (.iload_n 2, 1) := by decide +kernel
theorem dX8_price_16 : decode cX8_price 16 = .ok (.sipush 200, 3) := by decide +kernel
theorem dX8_price_19 : decode cX8_price 19 = .ok (.if_icmp .le 5, 3) := by decide +kernel
theorem dX8_price_22 : decode cX8_price 22 = .ok (.iconst (-1), 1) := by decide +kernel
theorem dX8_price_23 : decode cX8_price 23 = .ok (.ireturn, 1) := by decide +kernel
theorem dX8_price_24 : decode cX8_price 24 = .ok (.aload_n 0, 1) := by decide +kernel
theorem dX8_price_25 : decode cX8_price 25 = .ok (.invokevirtual 187, 3) := by decide +kernel
theorem dX8_price_28 : decode cX8_price 28 = .ok (.iconst 0, 1) := by decide +kernel
theorem dX8_price_29 : decode cX8_price 29 = .ok (.istore_n 3, 1) := by decide +kernel
theorem dX8_price_30 : decode cX8_price 30 = .ok (.iconst 0, 1) := by decide +kernel
theorem dX8_price_31 : decode cX8_price 31 = .ok (.istore 4, 2) := by decide +kernel
theorem dX8_price_33 : decode cX8_price 33 = .ok (.iload 4, 2) := by decide +kernel
theorem dX8_price_35 : decode cX8_price 35 = .ok (.iload_n 2, 1) := by decide +kernel
theorem dX8_price_36 : decode cX8_price 36 = .ok (.if_icmp .ge 40, 3) := by decide +kernel
theorem dX8_price_39 : decode cX8_price 39 = .ok (.aload_n 0, 1) := by decide +kernel
theorem dX8_price_40 : decode cX8_price 40 = .ok (.getfield 40, 3) := by decide +kernel
theorem dX8_price_43 : decode cX8_price 43 = .ok (.aload_n 0, 1) := by decide +kernel
theorem dX8_price_44 : decode cX8_price 44 = .ok (.getfield 26, 3) := by decide +kernel
theorem dX8_price_47 : decode cX8_price 47 = .ok (.invokevirtual 151, 3) := by decide +kernel
theorem dX8_price_50 : decode cX8_price 50 = .ok (.aload_n 0, 1) := by decide +kernel
theorem dX8_price_51 : decode cX8_price 51 = .ok (.getfield 26, 3) := by decide +kernel
theorem dX8_price_54 : decode cX8_price 54 = .ok (.invokevirtual 155, 3) := by decide +kernel
theorem dX8_price_57 : decode cX8_price 57 = .ok (.invokevirtual 158, 3) := by decide +kernel
theorem dX8_price_60 : decode cX8_price 60 = .ok (.iload_n 3, 1) := by decide +kernel
theorem dX8_price_61 : decode cX8_price 61 = .ok (.aload_n 0, 1) := by decide +kernel
theorem dX8_price_62 : decode cX8_price 62 = .ok (.getfield 40, 3) := by decide +kernel
theorem dX8_price_65 : decode cX8_price 65 = .ok (.getfield 224, 3) := by decide +kernel
theorem dX8_price_68 : decode cX8_price 68 = .ok (.iadd, 1) := by decide +kernel
theorem dX8_price_69 : decode cX8_price 69 = .ok (.istore_n 3, 1) := by decide +kernel
theorem dX8_price_70 : decode cX8_price 70 = .ok (.iinc 4 1, 3) := by decide +kernel
theorem dX8_price_73 : decode cX8_price 73 = .ok (.goto (-40), 3) := by decide +kernel
theorem dX8_price_76 : decode cX8_price 76 = .ok (.iload_n 1, 1) := by decide +kernel
theorem dX8_price_77 : decode cX8_price 77 = .ok (.iload_n 3, 1) := by decide +kernel
theorem dX8_price_78 : decode cX8_price 78 = .ok (.imul, 1) := by decide +kernel
theorem dX8_price_79 : decode cX8_price 79 = .ok (.ireturn, 1) := by decide +kernel
theorem dX8_heard_0 : decode cX8_heard 0 = .ok (.aload_n 0, 1) := by decide +kernel
theorem dX8_heard_1 : decode cX8_heard 1 = .ok (.getfield 36, 3) := by decide +kernel
theorem dX8_heard_4 : decode cX8_heard 4 = .ok (.iload_n 1, 1) := by decide +kernel
theorem dX8_heard_5 : decode cX8_heard 5 = .ok (.invokevirtual 167, 3) := by decide +kernel
theorem dX8_heard_8 : decode cX8_heard 8 = .ok (.ifCond .ne 5, 3) := by decide +kernel
theorem dX8_heard_11 : decode cX8_heard 11 = .ok (.iconst (-1), 1) := by decide +kernel
theorem dX8_heard_12 : decode cX8_heard 12 = .ok (.ireturn, 1) := by decide +kernel
theorem dX8_heard_13 : decode cX8_heard 13 = .ok (.aload_n 0, 1) := by decide +kernel
theorem dX8_heard_14 : decode cX8_heard 14 = .ok (.invokevirtual 187, 3) := by decide +kernel
theorem dX8_heard_17 : decode cX8_heard 17 = .ok (.iconst 1, 1) := by decide +kernel
theorem dX8_heard_18 : decode cX8_heard 18 = .ok (.iload_n 1, 1) := by decide +kernel
theorem dX8_heard_19 : decode cX8_heard 19 = .ok (.ishl, 1) := by decide +kernel
theorem dX8_heard_20 : decode cX8_heard 20 = .ok (.istore_n 2, 1) := by decide +kernel
theorem dX8_heard_21 : decode cX8_heard 21 = .ok (.iconst 0, 1) := by decide +kernel
theorem dX8_heard_22 : decode cX8_heard 22 = .ok (.istore_n 3, 1) := by decide +kernel
theorem dX8_heard_23 : decode cX8_heard 23 = .ok (.iload_n 3, 1) := by decide +kernel
theorem dX8_heard_24 : decode cX8_heard 24 = .ok (.sipush 200, 3) := by decide +kernel
theorem dX8_heard_27 : decode cX8_heard 27 = .ok (.if_icmp .gt 68, 3) := by decide +kernel
theorem dX8_heard_30 : decode cX8_heard 30 = .ok (.aload_n 0, 1) := by decide +kernel
theorem dX8_heard_31 : decode cX8_heard 31 = .ok (.getfield 40, 3) := by decide +kernel
theorem dX8_heard_34 : decode cX8_heard 34 = .ok (.getfield 132, 3) := by decide +kernel
theorem dX8_heard_37 : decode cX8_heard 37 = .ok (.iload_n 2, 1) := by decide +kernel
theorem dX8_heard_38 : decode cX8_heard 38 = .ok (.iconst (-1), 1) := by decide +kernel
theorem dX8_heard_39 : decode cX8_heard 39 = .ok (.ixor, 1) := by decide +kernel
theorem dX8_heard_40 : decode cX8_heard 40 = .ok (.iand, 1) := by decide +kernel
theorem dX8_heard_41 : decode cX8_heard 41 = .ok (.ifCond .ne 5, 3) := by decide +kernel
theorem dX8_heard_44 : decode cX8_heard 44 = .ok (.iload_n 3, 1) := by decide +kernel
theorem dX8_heard_45 : decode cX8_heard 45 = .ok (.ireturn, 1) := by decide +kernel
theorem dX8_heard_46 : decode cX8_heard 46 = .ok (.aload_n 0, 1) := by decide +kernel
theorem dX8_heard_47 : decode cX8_heard 47 = .ok (.getfield 40, 3) := by decide +kernel
theorem dX8_heard_50 : decode cX8_heard 50 = .ok (.aload_n 0, 1) := by decide +kernel
theorem dX8_heard_51 : decode cX8_heard 51 = .ok (.getfield 26, 3) := by decide +kernel
theorem dX8_heard_54 : decode cX8_heard 54 = .ok (.invokevirtual 151, 3) := by decide +kernel
theorem dX8_heard_57 : decode cX8_heard 57 = .ok (.aload_n 0, 1) := by decide +kernel
theorem dX8_heard_58 : decode cX8_heard 58 = .ok (.getfield 26, 3) := by decide +kernel
theorem dX8_heard_61 : decode cX8_heard 61 = .ok (.invokevirtual 155, 3) := by decide +kernel
theorem dX8_heard_64 : decode cX8_heard 64 = .ok (.invokevirtual 158, 3) := by decide +kernel
theorem dX8_heard_67 : decode cX8_heard 67 = .ok (.aload_n 0, 1) := by decide +kernel
theorem dX8_heard_68 : decode cX8_heard 68 = .ok (.getfield 40, 3) := by decide +kernel
theorem dX8_heard_71 : decode cX8_heard 71 = .ok (.getfield 227, 3) := by decide +kernel
theorem dX8_heard_74 : decode cX8_heard 74 = .ok (.iload_n 2, 1) := by decide +kernel
theorem dX8_heard_75 : decode cX8_heard 75 = .ok (.iand, 1) := by decide +kernel
theorem dX8_heard_76 : decode cX8_heard 76 = .ok (.ifCond .eq 13, 3) := by decide +kernel
theorem dX8_heard_79 : decode cX8_heard 79 = .ok (.iload_n 2, 1) := by decide +kernel
theorem dX8_heard_80 : decode cX8_heard 80 = .ok (.aload_n 0, 1) := by decide +kernel
theorem dX8_heard_81 : decode cX8_heard 81 = .ok (.getfield 40, 3) := by decide +kernel
theorem dX8_heard_84 : decode cX8_heard 84 = .ok (.getfield 227, 3) := by decide +kernel
theorem dX8_heard_87 : decode cX8_heard 87 = .ok (.ior, 1) := by decide +kernel
theorem dX8_heard_88 : decode cX8_heard 88 = .ok (.istore_n 2, 1) := by decide +kernel
theorem dX8_heard_89 : decode cX8_heard 89 = .ok (.iinc 3 1, 3) := by decide +kernel
theorem dX8_heard_92 : decode cX8_heard 92 = .ok (.goto (-69), 3) := by decide +kernel
theorem dX8_heard_95 : decode cX8_heard 95 = .ok (.bipush (-9), 2) := by decide +kernel
theorem dX8_heard_97 : decode cX8_heard 97 = .ok (.ireturn, 1) := by decide +kernel
theorem dX8_measured_0 : decode cX8_measured 0 = .ok (.iload_n 1, 1) := by decide +kernel
theorem dX8_measured_1 : decode cX8_measured 1 = .ok (.ifCond .lt 19, 3) := by decide +kernel
theorem dX8_measured_4 : decode cX8_measured 4 = .ok (.iload_n 1, 1) := by decide +kernel
theorem dX8_measured_5 : decode cX8_measured 5 = .ok (.bipush 40, 2) := by decide +kernel
theorem dX8_measured_7 : decode cX8_measured 7 = .ok (.if_icmp .gt 13, 3) := by decide +kernel
theorem dX8_measured_10 : decode cX8_measured 10 = .ok (.iload_n 2, 1) := by decide +kernel
theorem dX8_measured_11 : decode cX8_measured 11 = .ok (.ifCond .lt 9, 3) := by decide +kernel
theorem dX8_measured_14 : decode cX8_measured 14 = .ok (.iload_n 2, 1) := by decide +kernel
theorem dX8_measured_15 : decode cX8_measured 15 = .ok (.ldc 230, 2) := by decide +kernel
theorem dX8_measured_17 : decode cX8_measured 17 = .ok (.if_icmp .le 5, 3) := by decide +kernel
theorem dX8_measured_20 : decode cX8_measured 20 = .ok (.iconst (-1), 1) := by decide +kernel
theorem dX8_measured_21 : decode cX8_measured 21 = .ok (.ireturn, 1) := by decide +kernel
theorem dX8_measured_22 : decode cX8_measured 22 = .ok (.aload_n 0, 1) := by decide +kernel
theorem dX8_measured_23 : decode cX8_measured 23 = .ok (.getfield 61, 3) := by decide +kernel
theorem dX8_measured_26 : decode cX8_measured 26 = .ok (.iload_n 1, 1) := by decide +kernel
theorem dX8_measured_27 : decode cX8_measured 27 = .ok (.iload_n 2, 1) := by decide +kernel
theorem dX8_measured_28 : decode cX8_measured 28 = .ok (.invokevirtual 231, 3) := by decide +kernel
theorem dX8_measured_31 : decode cX8_measured 31 = .ok (.ifCond .eq 13, 3) := by decide +kernel
theorem dX8_measured_34 : decode cX8_measured 34 = .ok (.aload_n 0, 1) := by decide +kernel
theorem dX8_measured_35 : decode cX8_measured 35 = .ok (.getfield 61, 3) := by decide +kernel
theorem dX8_measured_38 : decode cX8_measured 38 = .ok (.getfield 105, 3) := by decide +kernel
theorem dX8_measured_41 : decode cX8_measured 41 = .ok (.goto 5, 3) := by decide +kernel
theorem dX8_measured_44 : decode cX8_measured 44 = .ok (.bipush (-3), 2) := by decide +kernel
theorem dX8_measured_46 : decode cX8_measured 46 = .ok (.ireturn, 1) := by decide +kernel
theorem dX8_forget_0 : decode cX8_forget 0 = .ok (.aload_n 0, 1) := by decide +kernel
theorem dX8_forget_1 : decode cX8_forget 1 = .ok (.getfield 61, 3) := by decide +kernel
theorem dX8_forget_4 : decode cX8_forget 4 = .ok (.getfield 105, 3) := by decide +kernel
theorem dX8_forget_7 : decode cX8_forget 7 = .ok (.istore_n 1, 1) := by decide +kernel
theorem dX8_forget_8 : decode cX8_forget 8 = .ok (.aload_n 0, 1) := by decide +kernel
theorem dX8_forget_9 : decode cX8_forget 9 = .ok (.getfield 61, 3) := by decide +kernel
theorem dX8_forget_12 : decode cX8_forget 12 = .ok (.iconst 0, 1) := by decide +kernel
theorem dX8_forget_13 : decode cX8_forget 13 = .ok (.putfield 105, 3) := by decide +kernel
theorem dX8_forget_16 : decode cX8_forget 16 = .ok (.iload_n 1, 1) := by decide +kernel
theorem dX8_forget_17 : decode cX8_forget 17 = .ok (.ireturn, 1) := by decide +kernel
theorem dX8_splitFirst_0 : decode cX8_splitFirst 0 = .ok (.aload_n 0, 1) := by decide +kernel
theorem dX8_splitFirst_1 : decode cX8_splitFirst 1 = .ok (.getfield 40, 3) := by decide +kernel
theorem dX8_splitFirst_4 : decode cX8_splitFirst 4 = .ok (.aload_n 0, 1) := by decide +kernel
theorem dX8_splitFirst_5 : decode cX8_splitFirst 5 = .ok (.getfield 26, 3) := by decide +kernel
theorem dX8_splitFirst_8 : decode cX8_splitFirst 8 = .ok (.getfield 99, 3) := by decide +kernel
theorem dX8_splitFirst_11 : decode cX8_splitFirst 11 = .ok (.invokevirtual 102, 3) := by decide +kernel
theorem dX8_splitFirst_14 : decode cX8_splitFirst 14 = .ok (.aload_n 0, 1) := by decide +kernel
theorem dX8_splitFirst_15 : decode cX8_splitFirst 15 = .ok (.invokevirtual 234, 3) := by decide +kernel
theorem dX8_splitFirst_18 : decode cX8_splitFirst 18 = .ok (.ifCond .eq 9, 3) := by decide +kernel
theorem dX8_splitFirst_21 : decode cX8_splitFirst 21 = .ok (.sipush 256, 3) := by decide +kernel
theorem dX8_splitFirst_24 : decode cX8_splitFirst 24 = .ok (.goto 4, 3) := by decide +kernel
theorem dX8_splitFirst_27 : decode cX8_splitFirst 27 = .ok (.iconst 0, 1) := by decide +kernel
theorem dX8_splitFirst_28 : decode cX8_splitFirst 28 = .ok (.istore_n 1, 1) := by decide +kernel
theorem dX8_splitFirst_29 : decode cX8_splitFirst 29 = .ok (.iconst 0, 1) := by decide +kernel
theorem dX8_splitFirst_30 : decode cX8_splitFirst 30 = .ok (.istore_n 2, 1) := by decide +kernel
theorem dX8_splitFirst_31 : decode cX8_splitFirst 31 = .ok (.iload_n 2, 1) := by decide +kernel
theorem dX8_splitFirst_32 : decode cX8_splitFirst 32 = .ok (.bipush 8, 2) := by decide +kernel
theorem dX8_splitFirst_34 : decode cX8_splitFirst 34 = .ok (.if_icmp .ge 60, 3) := by decide +kernel
theorem dX8_splitFirst_37 : decode cX8_splitFirst 37 = .ok (.aload_n 0, 1) := by decide +kernel
theorem dX8_splitFirst_38 : decode cX8_splitFirst 38 = .ok (.getfield 40, 3) := by decide +kernel
theorem dX8_splitFirst_41 : decode cX8_splitFirst 41 = .ok (.aload_n 0, 1) := by decide +kernel
theorem dX8_splitFirst_42 : decode cX8_splitFirst 42 = .ok (.getfield 26, 3) := by decide +kernel
theorem dX8_splitFirst_45 : decode cX8_splitFirst 45 = .ok (.getfield 99, 3) := by decide +kernel
theorem dX8_splitFirst_48 : decode cX8_splitFirst 48 = .ok (.invokevirtual 102, 3) := by decide +kernel
theorem dX8_splitFirst_51 : decode cX8_splitFirst 51 = .ok (.aload_n 0, 1) := by decide +kernel
theorem dX8_splitFirst_52 : decode cX8_splitFirst 52 = .ok (.getfield 40, 3) := by decide +kernel
theorem dX8_splitFirst_55 : decode cX8_splitFirst 55 = .ok (.iload_n 2, 1) := by decide +kernel
theorem dX8_splitFirst_56 : decode cX8_splitFirst 56 = .ok (.invokevirtual 170, 3) := by decide +kernel
theorem dX8_splitFirst_59 : decode cX8_splitFirst 59 = .ok (.ifCond .eq 29, 3) := by decide +kernel
theorem dX8_splitFirst_62 : decode cX8_splitFirst 62 = .ok (.aload_n 0, 1) := by decide +kernel
theorem dX8_splitFirst_63 : decode cX8_splitFirst 63 = .ok (.getfield 40, 3) := by decide +kernel
theorem dX8_splitFirst_66 : decode cX8_splitFirst 66 = .ok (.iload_n 2, 1) := by decide +kernel
theorem dX8_splitFirst_67 : decode cX8_splitFirst 67 = .ok (.invokevirtual 173, 3) := by decide +kernel
theorem dX8_splitFirst_70 : decode cX8_splitFirst 70 = .ok (.pop, 1) := by decide +kernel
theorem dX8_splitFirst_71 : decode cX8_splitFirst 71 = .ok (.iload_n 1, 1) := by decide +kernel
theorem dX8_splitFirst_72 : decode cX8_splitFirst 72 = .ok (.aload_n 0, 1) := by decide +kernel
theorem dX8_splitFirst_73 : decode cX8_splitFirst 73 = .ok (.invokevirtual 234, 3) := by decide +kernel
theorem dX8_splitFirst_76 : decode cX8_splitFirst 76 = .ok (.ifCond .eq 9, 3) := by decide +kernel
theorem dX8_splitFirst_79 : decode cX8_splitFirst 79 = .ok (.iconst 1, 1) := by decide +kernel
theorem dX8_splitFirst_80 : decode cX8_splitFirst 80 = .ok (.iload_n 2, 1) := by decide +kernel
theorem dX8_splitFirst_81 : decode cX8_splitFirst 81 = .ok (.ishl, 1) := by decide +kernel
theorem dX8_splitFirst_82 : decode cX8_splitFirst 82 = .ok (.goto 4, 3) := by decide +kernel
theorem dX8_splitFirst_85 : decode cX8_splitFirst 85 = .ok (.iconst 0, 1) := by decide +kernel
theorem dX8_splitFirst_86 : decode cX8_splitFirst 86 = .ok (.ior, 1) := by decide +kernel
theorem dX8_splitFirst_87 : decode cX8_splitFirst 87 = .ok (.istore_n 1, 1) := by decide +kernel
theorem dX8_splitFirst_88 : decode cX8_splitFirst 88 = .ok (.iinc 2 1, 3) := by decide +kernel
theorem dX8_splitFirst_91 : decode cX8_splitFirst 91 = .ok (.goto (-60), 3) := by decide +kernel
theorem dX8_splitFirst_94 : decode cX8_splitFirst 94 = .ok (.iload_n 1, 1) := by decide +kernel
theorem dX8_splitFirst_95 : decode cX8_splitFirst 95 = .ok (.ireturn, 1) := by decide +kernel
theorem dX8_isAsMeasured_0 : decode cX8_isAsMeasured 0 = .ok (.aload_n 0, 1) := by decide +kernel
theorem dX8_isAsMeasured_1 : decode cX8_isAsMeasured 1 = .ok (.getfield 61, 3) := by decide +kernel
theorem dX8_isAsMeasured_4 : decode cX8_isAsMeasured 4 = .ok (.iconst 0, 1) := by decide +kernel
theorem dX8_isAsMeasured_5 : decode cX8_isAsMeasured 5 = .ok (.aload_n 0, 1) := by decide +kernel
theorem dX8_isAsMeasured_6 : decode cX8_isAsMeasured 6 = .ok (.getfield 40, 3) := by decide +kernel
theorem dX8_isAsMeasured_9 : decode cX8_isAsMeasured 9 = .ok (.getfield 138, 3) := by decide +kernel
theorem dX8_isAsMeasured_12 : decode cX8_isAsMeasured 12 = .ok (.invokevirtual 238, 3) := by decide +kernel
theorem dX8_isAsMeasured_15 : decode cX8_isAsMeasured 15 = .ok (.istore_n 1, 1) := by decide +kernel
theorem dX8_isAsMeasured_16 : decode cX8_isAsMeasured 16 = .ok (.iconst 1, 1) := by decide +kernel
theorem dX8_isAsMeasured_17 : decode cX8_isAsMeasured 17 = .ok (.istore_n 2, 1) := by decide +kernel
theorem dX8_isAsMeasured_18 : decode cX8_isAsMeasured 18 = .ok (.iload_n 2, 1) := by decide +kernel
theorem dX8_isAsMeasured_19 : decode cX8_isAsMeasured 19 = .ok (.bipush 40, 2) := by decide +kernel
theorem dX8_isAsMeasured_21 : decode cX8_isAsMeasured 21 = .ok (.if_icmp .gt 50, 3) := by decide +kernel
theorem dX8_isAsMeasured_24 : decode cX8_isAsMeasured 24 = .ok (.iload_n 1, 1) := by decide +kernel
theorem dX8_isAsMeasured_25 : decode cX8_isAsMeasured 25 = .ok (.ifCond .eq 46, 3) := by decide +kernel
theorem dX8_isAsMeasured_28 : decode cX8_isAsMeasured 28 = .ok (.aload_n 0, 1) := by decide +kernel
theorem dX8_isAsMeasured_29 : decode cX8_isAsMeasured 29 = .ok (.getfield 40, 3) := by decide +kernel
theorem dX8_isAsMeasured_32 : decode cX8_isAsMeasured 32 = .ok (.aload_n 0, 1) := by decide +kernel
theorem dX8_isAsMeasured_33 : decode cX8_isAsMeasured 33 = .ok (.getfield 26, 3) := by decide +kernel
theorem dX8_isAsMeasured_36 : decode cX8_isAsMeasured 36 = .ok (.invokevirtual 151, 3) := by decide +kernel
theorem dX8_isAsMeasured_39 : decode cX8_isAsMeasured 39 = .ok (.aload_n 0, 1) := by decide +kernel
theorem dX8_isAsMeasured_40 : decode cX8_isAsMeasured 40 = .ok (.getfield 26, 3) := by decide +kernel
theorem dX8_isAsMeasured_43 : decode cX8_isAsMeasured 43 = .ok (.invokevirtual 155, 3) := by decide +kernel
theorem dX8_isAsMeasured_46 : decode cX8_isAsMeasured 46 = .ok (.invokevirtual 158, 3) := by decide +kernel
theorem dX8_isAsMeasured_49 : decode cX8_isAsMeasured 49 = .ok (.aload_n 0, 1) := by decide +kernel
theorem dX8_isAsMeasured_50 : decode cX8_isAsMeasured 50 = .ok (.getfield 61, 3) := by decide +kernel
theorem dX8_isAsMeasured_53 : decode cX8_isAsMeasured 53 = .ok (.iload_n 2, 1) := by decide +kernel
theorem dX8_isAsMeasured_54 : decode cX8_isAsMeasured 54 = .ok (.aload_n 0, 1) := by decide +kernel
theorem dX8_isAsMeasured_55 : decode cX8_isAsMeasured 55 = .ok (.getfield 40, 3) := by decide +kernel
theorem dX8_isAsMeasured_58 : decode cX8_isAsMeasured 58 = .ok (.getfield 138, 3) := by decide +kernel
theorem dX8_isAsMeasured_61 : decode cX8_isAsMeasured 61 = .ok (.invokevirtual 238, 3) := by decide +kernel
theorem dX8_isAsMeasured_64 : decode cX8_isAsMeasured 64 = .ok (.istore_n 1, 1) := by decide +kernel
theorem dX8_isAsMeasured_65 : decode cX8_isAsMeasured 65 = .ok (.iinc 2 1, 3) := by decide +kernel
theorem dX8_isAsMeasured_68 : decode cX8_isAsMeasured 68 = .ok (.goto (-50), 3) := by decide +kernel
theorem dX8_isAsMeasured_71 : decode cX8_isAsMeasured 71 = .ok (.iload_n 1, 1) := by decide +kernel
theorem dX8_isAsMeasured_72 : decode cX8_isAsMeasured 72 = .ok (.ireturn, 1) := by decide +kernel
theorem dX8_odds_0 : decode cX8_odds 0 = .ok (.aload_n 0, 1) := by decide +kernel
theorem dX8_odds_1 : decode cX8_odds 1 = .ok (.getfield 36, 3) := by decide +kernel
theorem dX8_odds_4 : decode cX8_odds 4 = .ok (.iload_n 1, 1) := by decide +kernel
theorem dX8_odds_5 : decode cX8_odds 5 = .ok (.invokevirtual 167, 3) := by decide +kernel
theorem dX8_odds_8 : decode cX8_odds 8 = .ok (.ifCond .eq 23, 3) := by decide +kernel
theorem dX8_odds_11 : decode cX8_odds 11 = .ok (.iload_n 2, 1) := by decide +kernel
theorem dX8_odds_12 : decode cX8_odds 12 = .ok (.ifCond .lt 19, 3) := by decide +kernel
theorem dX8_odds_15 : decode cX8_odds 15 = .ok (.iload_n 2, 1) := by decide +kernel
theorem dX8_odds_16 : decode cX8_odds 16 = .ok (.bipush 10, 2) := by decide +kernel
theorem dX8_odds_18 : decode cX8_odds 18 = .ok (.if_icmp .gt 13, 3) := by decide +kernel
theorem dX8_odds_21 : decode cX8_odds 21 = .ok (.iload_n 3, 1) := by decide +kernel
theorem dX8_odds_22 : decode cX8_odds 22 = .ok (.ifCond .lt 9, 3) := by decide +kernel
theorem dX8_odds_25 : decode cX8_odds 25 = .ok (.iload_n 3, 1) := by decide +kernel
theorem dX8_odds_26 : decode cX8_odds 26 = .ok (.bipush 40, 2) := by decide +kernel
theorem dX8_odds_28 : decode cX8_odds 28 = .ok (.if_icmp .le 5, 3) := by decide +kernel
theorem dX8_odds_31 : decode cX8_odds 31 = .ok (.iconst (-1), 1) := by decide +kernel
theorem dX8_odds_32 : decode cX8_odds 32 = .ok (.ireturn, 1) := by decide +kernel
theorem dX8_odds_33 : decode cX8_odds 33 = .ok (.iload 4, 2) := by decide +kernel
theorem dX8_odds_35 : decode cX8_odds 35 = .ok (.ifCond .lt 21, 3) := by decide +kernel
theorem dX8_odds_38 : decode cX8_odds 38 = .ok (.iload 4, 2) := by decide +kernel
theorem dX8_odds_40 : decode cX8_odds 40 = .ok (.bipush 9, 2) := by decide +kernel
theorem dX8_odds_42 : decode cX8_odds 42 = .ok (.if_icmp .gt 14, 3) := by decide +kernel
theorem dX8_odds_45 : decode cX8_odds 45 = .ok (.iload 5, 2) := by decide +kernel
theorem dX8_odds_47 : decode cX8_odds 47 = .ok (.ifCond .lt 9, 3) := by decide +kernel
theorem dX8_odds_50 : decode cX8_odds 50 = .ok (.iload 5, 2) := by decide +kernel
theorem dX8_odds_52 : decode cX8_odds 52 = .ok (.iconst 1, 1) := by decide +kernel
theorem dX8_odds_53 : decode cX8_odds 53 = .ok (.if_icmp .le 5, 3) := by decide +kernel
theorem dX8_odds_56 : decode cX8_odds 56 = .ok (.iconst (-1), 1) := by decide +kernel
theorem dX8_odds_57 : decode cX8_odds 57 = .ok (.ireturn, 1) := by decide +kernel
theorem dX8_odds_58 : decode cX8_odds 58 = .ok (.aload_n 0, 1) := by decide +kernel
theorem dX8_odds_59 : decode cX8_odds 59 = .ok (.getfield 36, 3) := by decide +kernel
theorem dX8_odds_62 : decode cX8_odds 62 = .ok (.iload_n 1, 1) := by decide +kernel
theorem dX8_odds_63 : decode cX8_odds 63 = .ok (.iload_n 3, 1) := by decide +kernel
theorem dX8_odds_64 : decode cX8_odds 64 = .ok (.invokevirtual 241, 3) := by decide +kernel
theorem dX8_odds_67 : decode cX8_odds 67 = .ok (.istore 6, 2) := by decide +kernel
theorem dX8_odds_69 : decode cX8_odds 69 = .ok (.iload 6, 2) := by decide +kernel
theorem dX8_odds_71 : decode cX8_odds 71 = .ok (.bipush 9, 2) := by decide +kernel
theorem dX8_odds_73 : decode cX8_odds 73 = .ok (.if_icmp .le 6, 3) := by decide +kernel
theorem dX8_odds_76 : decode cX8_odds 76 = .ok (.ldc 244, 2) := by decide +kernel
theorem dX8_odds_78 : decode cX8_odds 78 = .ok (.ireturn, 1) := by decide +kernel
theorem dX8_odds_79 : decode cX8_odds 79 = .ok (.aload_n 0, 1) := by decide +kernel
theorem dX8_odds_80 : decode cX8_odds 80 = .ok (.iload_n 2, 1) := by decide +kernel
theorem dX8_odds_81 : decode cX8_odds 81 = .ok (.iload 6, 2) := by decide +kernel
theorem dX8_odds_83 : decode cX8_odds 83 = .ok (.invokevirtual 245, 3) := by decide +kernel
theorem dX8_odds_86 : decode cX8_odds 86 = .ok (.lstore 7, 2) := by decide +kernel
theorem dX8_odds_88 : decode cX8_odds 88 = .ok (.lconst 0, 1) := by decide +kernel
theorem dX8_odds_89 : decode cX8_odds 89 = .ok (.lstore 9, 2) := by decide +kernel
theorem dX8_odds_91 : decode cX8_odds 91 = .ok (.iload 4, 2) := by decide +kernel
theorem dX8_odds_93 : decode cX8_odds 93 = .ok (.istore 11, 2) := by decide +kernel
theorem dX8_odds_95 : decode cX8_odds 95 = .ok (.iload 11, 2) := by decide +kernel
theorem dX8_odds_97 : decode cX8_odds 97 = .ok (.iload 6, 2) := by decide +kernel
theorem dX8_odds_99 : decode cX8_odds 99 = .ok (.if_icmp .gt 21, 3) := by decide +kernel
theorem dX8_odds_102 : decode cX8_odds 102 = .ok (.lload 9, 2) := by decide +kernel
theorem dX8_odds_104 : decode cX8_odds 104 = .ok (.aload_n 0, 1) := by decide +kernel
theorem dX8_odds_105 : decode cX8_odds 105 = .ok (.getfield 72, 3) := by decide +kernel
theorem dX8_odds_108 : decode cX8_odds 108 = .ok (.iload 11, 2) := by decide +kernel
theorem dX8_odds_110 : decode cX8_odds 110 = .ok (.laload, 1) := by decide +kernel
theorem dX8_odds_111 : decode cX8_odds 111 = .ok (.ladd, 1) := by decide +kernel
theorem dX8_odds_112 : decode cX8_odds 112 = .ok (.lstore 9, 2) := by decide +kernel
theorem dX8_odds_114 : decode cX8_odds 114 = .ok (.iinc 11 1, 3) := by decide +kernel
theorem dX8_odds_117 : decode cX8_odds 117 = .ok (.goto (-22), 3) := by decide +kernel
theorem dX8_odds_120 : decode cX8_odds 120 = .ok (.aload_n 0, 1) := by decide +kernel
theorem dX8_odds_121 : decode cX8_odds 121 = .ok (.getfield 68, 3) := by decide +kernel
theorem dX8_odds_124 : decode cX8_odds 124 = .ok (.lload 9, 2) := by decide +kernel
theorem dX8_odds_126 : decode cX8_odds 126 = .ok (.lload 7, 2) := by decide +kernel
theorem dX8_odds_128 : decode cX8_odds 128 = .ok (.invokevirtual 210, 3) := by decide +kernel
theorem dX8_odds_131 : decode cX8_odds 131 = .ok (.aload_n 0, 1) := by decide +kernel
theorem dX8_odds_132 : decode cX8_odds 132 = .ok (.getfield 68, 3) := by decide +kernel
theorem dX8_odds_135 : decode cX8_odds 135 = .ok (.iload 5, 2) := by decide +kernel
theorem dX8_odds_137 : decode cX8_odds 137 = .ok (.invokevirtual 220, 3) := by decide +kernel
theorem dX8_odds_140 : decode cX8_odds 140 = .ok (.l2i, 1) := by decide +kernel
theorem dX8_odds_141 : decode cX8_odds 141 = .ok (.ireturn, 1) := by decide +kernel
theorem dX8_countWays_0 : decode cX8_countWays 0 = .ok (.iconst 0, 1) := by decide +kernel
theorem dX8_countWays_1 : decode cX8_countWays 1 = .ok (.istore_n 3, 1) := by decide +kernel
theorem dX8_countWays_2 : decode cX8_countWays 2 = .ok (.iload_n 3, 1) := by decide +kernel
theorem dX8_countWays_3 : decode cX8_countWays 3 = .ok (.bipush 9, 2) := by decide +kernel
theorem dX8_countWays_5 : decode cX8_countWays 5 = .ok (.if_icmp .gt 24, 3) := by decide +kernel
theorem dX8_countWays_8 : decode cX8_countWays 8 = .ok (.aload_n 0, 1) := by decide +kernel
theorem dX8_countWays_9 : decode cX8_countWays 9 = .ok (.getfield 72, 3) := by decide +kernel
theorem dX8_countWays_12 : decode cX8_countWays 12 = .ok (.iload_n 3, 1) := by decide +kernel
theorem dX8_countWays_13 : decode cX8_countWays 13 = .ok (.iload_n 3, 1) := by decide +kernel
theorem dX8_countWays_14 : decode cX8_countWays 14 = .ok (.ifCond .ne 7, 3) := by decide +kernel
theorem dX8_countWays_17 : decode cX8_countWays 17 = .ok (.lconst 1, 1) := by decide +kernel
theorem dX8_countWays_18 : decode cX8_countWays 18 = .ok (.goto 4, 3) := by decide +kernel
theorem dX8_countWays_21 : decode cX8_countWays 21 = .ok (.lconst 0, 1) := by decide +kernel
theorem dX8_countWays_22 : decode cX8_countWays 22 = .ok (.lastore, 1) := by decide +kernel
theorem dX8_countWays_23 : decode cX8_countWays 23 = .ok (.iinc 3 1, 3) := by decide +kernel
theorem dX8_countWays_26 : decode cX8_countWays 26 = .ok (.goto (-24), 3) := by decide +kernel
theorem dX8_countWays_29 : decode cX8_countWays 29 = .ok (.lconst 1, 1) := by decide +kernel
theorem dX8_countWays_30 : decode cX8_countWays 30 = .ok (.lstore_n 3, 1) := by decide +kernel
theorem dX8_countWays_31 : decode cX8_countWays 31 = .ok (.iconst 0, 1) := by decide +kernel
theorem dX8_countWays_32 : decode cX8_countWays 32 = .ok (.istore 5, 2) := by decide +kernel
theorem dX8_countWays_34 : decode cX8_countWays 34 = .ok (.iload 5, 2) := by decide +kernel
theorem dX8_countWays_36 : decode cX8_countWays 36 = .ok (.iload_n 2, 1) := by decide +kernel
theorem dX8_countWays_37 : decode cX8_countWays 37 = .ok (.if_icmp .ge 81, 3) := by decide +kernel
theorem dX8_countWays_40 : decode cX8_countWays 40 = .ok (.iload 5, 2) := by decide +kernel
theorem dX8_countWays_42 : decode cX8_countWays 42 = .ok (.bipush 9, 2) := by decide +kernel
theorem dX8_countWays_44 : decode cX8_countWays 44 = .ok (.if_icmp .ge 74, 3) := by decide +kernel
theorem dX8_countWays_47 : decode cX8_countWays 47 = .ok (.lload_n 3, 1) := by decide +kernel
theorem dX8_countWays_48 : decode cX8_countWays 48 = .ok (.ldc2_w 249, 3) := by decide +kernel
theorem dX8_countWays_51 : decode cX8_countWays 51 = .ok (.lmul, 1) := by decide +kernel
theorem dX8_countWays_52 : decode cX8_countWays 52 = .ok (.lstore_n 3, 1) := by decide +kernel
theorem dX8_countWays_53 : decode cX8_countWays 53 = .ok (.bipush 9, 2) := by decide +kernel
theorem dX8_countWays_55 : decode cX8_countWays 55 = .ok (.istore 6, 2) := by decide +kernel
theorem dX8_countWays_57 : decode cX8_countWays 57 = .ok (.iload 6, 2) := by decide +kernel
theorem dX8_countWays_59 : decode cX8_countWays 59 = .ok (.ifCond .le 42, 3) := by decide +kernel
theorem dX8_countWays_62 : decode cX8_countWays 62 = .ok (.aload_n 0, 1) := by decide +kernel
theorem dX8_countWays_63 : decode cX8_countWays 63 = .ok (.getfield 72, 3) := by decide +kernel
theorem dX8_countWays_66 : decode cX8_countWays 66 = .ok (.iload 6, 2) := by decide +kernel
theorem dX8_countWays_68 : decode cX8_countWays 68 = .ok (.aload_n 0, 1) := by decide +kernel
theorem dX8_countWays_69 : decode cX8_countWays 69 = .ok (.getfield 72, 3) := by decide +kernel
theorem dX8_countWays_72 : decode cX8_countWays 72 = .ok (.iload 6, 2) := by decide +kernel
theorem dX8_countWays_74 : decode cX8_countWays 74 = .ok (.laload, 1) := by decide +kernel
theorem dX8_countWays_75 : decode cX8_countWays 75 = .ok (.iload_n 1, 1) := by decide +kernel
theorem dX8_countWays_76 : decode cX8_countWays 76 = .ok (.i2l, 1) := by decide +kernel
theorem dX8_countWays_77 : decode cX8_countWays 77 = .ok (.lmul, 1) := by decide +kernel
theorem dX8_countWays_78 : decode cX8_countWays 78 = .ok (.aload_n 0, 1) := by decide +kernel
theorem dX8_countWays_79 : decode cX8_countWays 79 = .ok (.getfield 72, 3) := by decide +kernel
theorem dX8_countWays_82 : decode cX8_countWays 82 = .ok (.iload 6, 2) := by decide +kernel
theorem dX8_countWays_84 : decode cX8_countWays 84 = .ok (.iconst 1, 1) := by decide +kernel
theorem dX8_countWays_85 : decode cX8_countWays 85 = .ok (.isub, 1) := by decide +kernel
theorem dX8_countWays_86 : decode cX8_countWays 86 = .ok (.laload, 1) := by decide +kernel
theorem dX8_countWays_87 : decode cX8_countWays 87 = .ok (.bipush 10, 2) := by decide +kernel
theorem dX8_countWays_89 : decode cX8_countWays 89 = .ok (.iload_n 1, 1) := by decide +kernel
theorem dX8_countWays_90 : decode cX8_countWays 90 = .ok (.isub, 1) := by decide +kernel
theorem dX8_countWays_91 : decode cX8_countWays 91 = .ok (.i2l, 1) := by decide +kernel
theorem dX8_countWays_92 : decode cX8_countWays 92 = .ok (.lmul, 1) := by decide +kernel
theorem dX8_countWays_93 : decode cX8_countWays 93 = .ok (.ladd, 1) := by decide +kernel
theorem dX8_countWays_94 : decode cX8_countWays 94 = .ok (.lastore, 1) := by decide +kernel
theorem dX8_countWays_95 : decode cX8_countWays 95 = .ok (.iinc 6 (-1), 3) := by decide +kernel
theorem dX8_countWays_98 : decode cX8_countWays 98 = .ok (.goto (-41), 3) := by decide +kernel
theorem dX8_countWays_101 : decode cX8_countWays 101 = .ok (.aload_n 0, 1) := by decide +kernel
theorem dX8_countWays_102 : decode cX8_countWays 102 = .ok (.getfield 72, 3) := by decide +kernel
theorem dX8_countWays_105 : decode cX8_countWays 105 = .ok (.iconst 0, 1) := by decide +kernel
theorem dX8_countWays_106 : decode cX8_countWays 106 = .ok (.dup2, 1) := by decide +kernel
theorem dX8_countWays_107 : decode cX8_countWays 107 = .ok (.laload, 1) := by decide +kernel
theorem dX8_countWays_108 : decode cX8_countWays 108 = .ok (.iload_n 1, 1) := by decide +kernel
theorem dX8_countWays_109 : decode cX8_countWays 109 = .ok (.i2l, 1) := by decide +kernel
theorem dX8_countWays_110 : decode cX8_countWays 110 = .ok (.lmul, 1) := by decide +kernel
theorem dX8_countWays_111 : decode cX8_countWays 111 = .ok (.lastore, 1) := by decide +kernel
theorem dX8_countWays_112 : decode cX8_countWays 112 = .ok (.iinc 5 1, 3) := by decide +kernel
theorem dX8_countWays_115 : decode cX8_countWays 115 = .ok (.goto (-81), 3) := by decide +kernel
theorem dX8_countWays_118 : decode cX8_countWays 118 = .ok (.lload_n 3, 1) := by decide +kernel
theorem dX8_countWays_119 : decode cX8_countWays 119 = .ok (.lreturn, 1) := by decide +kernel
theorem dX8_rate_0 : decode cX8_rate 0 = .ok (.iload_n 2, 1) := by decide +kernel
theorem dX8_rate_1 : decode cX8_rate 1 = .ok (.ifCond .lt 9, 3) := by decide +kernel
theorem dX8_rate_4 : decode cX8_rate 4 = .ok (.iload_n 2, 1) := by decide +kernel
theorem dX8_rate_5 : decode cX8_rate 5 = .ok (.bipush 8, 2) := by decide +kernel
theorem dX8_rate_7 : decode cX8_rate 7 = .ok (.if_icmp .lt 6, 3) := by decide +kernel
theorem dX8_rate_10 : decode cX8_rate 10 = .ok (.ldc 244, 2) := by decide +kernel
theorem dX8_rate_12 : decode cX8_rate 12 = .ok (.ireturn, 1) := by decide +kernel
theorem dX8_rate_13 : decode cX8_rate 13 = .ok (.aload_n 0, 1) := by decide +kernel
theorem dX8_rate_14 : decode cX8_rate 14 = .ok (.getfield 36, 3) := by decide +kernel
theorem dX8_rate_17 : decode cX8_rate 17 = .ok (.getfield 109, 3) := by decide +kernel
theorem dX8_rate_20 : decode cX8_rate 20 = .ok (.iload_n 2, 1) := by decide +kernel
theorem dX8_rate_21 : decode cX8_rate 21 = .ok (.iaload, 1) := by decide +kernel
theorem dX8_rate_22 : decode cX8_rate 22 = .ok (.istore_n 3, 1) := by decide +kernel
theorem dX8_rate_23 : decode cX8_rate 23 = .ok (.iload_n 1, 1) := by decide +kernel
theorem dX8_rate_24 : decode cX8_rate 24 = .ok (.tableswitch 145 0 5 #[40, 49, 67, 85, 103, 122], 40) := by decide +kernel
theorem dX8_rate_64 : decode cX8_rate 64 = .ok (.aload_n 0, 1) := by decide +kernel
theorem dX8_rate_65 : decode cX8_rate 65 = .ok (.getfield 79, 3) := by decide +kernel
theorem dX8_rate_68 : decode cX8_rate 68 = .ok (.iload_n 3, 1) := by decide +kernel
theorem dX8_rate_69 : decode cX8_rate 69 = .ok (.invokevirtual 251, 3) := by decide +kernel
theorem dX8_rate_72 : decode cX8_rate 72 = .ok (.ireturn, 1) := by decide +kernel
theorem dX8_rate_73 : decode cX8_rate 73 = .ok (.aload_n 0, 1) := by decide +kernel
theorem dX8_rate_74 : decode cX8_rate 74 = .ok (.getfield 79, 3) := by decide +kernel
theorem dX8_rate_77 : decode cX8_rate 77 = .ok (.iload_n 3, 1) := by decide +kernel
theorem dX8_rate_78 : decode cX8_rate 78 = .ok (.aload_n 0, 1) := by decide +kernel
theorem dX8_rate_79 : decode cX8_rate 79 = .ok (.getfield 36, 3) := by decide +kernel
theorem dX8_rate_82 : decode cX8_rate 82 = .ok (.getfield 113, 3) := by decide +kernel
theorem dX8_rate_85 : decode cX8_rate 85 = .ok (.iload_n 2, 1) := by decide +kernel
theorem dX8_rate_86 : decode cX8_rate 86 = .ok (.iaload, 1) := by decide +kernel
theorem dX8_rate_87 : decode cX8_rate 87 = .ok (.invokevirtual 254, 3) := by decide +kernel
theorem dX8_rate_90 : decode cX8_rate 90 = .ok (.ireturn, 1) := by decide +kernel
theorem dX8_rate_91 : decode cX8_rate 91 = .ok (.aload_n 0, 1) := by decide +kernel
theorem dX8_rate_92 : decode cX8_rate 92 = .ok (.getfield 79, 3) := by decide +kernel
theorem dX8_rate_95 : decode cX8_rate 95 = .ok (.iload_n 3, 1) := by decide +kernel
theorem dX8_rate_96 : decode cX8_rate 96 = .ok (.aload_n 0, 1) := by decide +kernel
theorem dX8_rate_97 : decode cX8_rate 97 = .ok (.getfield 36, 3) := by decide +kernel
theorem dX8_rate_100 : decode cX8_rate 100 = .ok (.getfield 116, 3) := by decide +kernel
theorem dX8_rate_103 : decode cX8_rate 103 = .ok (.iload_n 2, 1) := by decide +kernel
theorem dX8_rate_104 : decode cX8_rate 104 = .ok (.iaload, 1) := by decide +kernel
theorem dX8_rate_105 : decode cX8_rate 105 = .ok (.invokevirtual 257, 3) := by decide +kernel
theorem dX8_rate_108 : decode cX8_rate 108 = .ok (.ireturn, 1) := by decide +kernel
theorem dX8_rate_109 : decode cX8_rate 109 = .ok (.aload_n 0, 1) := by decide +kernel
theorem dX8_rate_110 : decode cX8_rate 110 = .ok (.getfield 79, 3) := by decide +kernel
theorem dX8_rate_113 : decode cX8_rate 113 = .ok (.iload_n 3, 1) := by decide +kernel
theorem dX8_rate_114 : decode cX8_rate 114 = .ok (.aload_n 0, 1) := by decide +kernel
theorem dX8_rate_115 : decode cX8_rate 115 = .ok (.getfield 36, 3) := by decide +kernel
theorem dX8_rate_118 : decode cX8_rate 118 = .ok (.getfield 113, 3) := by decide +kernel
theorem dX8_rate_121 : decode cX8_rate 121 = .ok (.iload_n 2, 1) := by decide +kernel
theorem dX8_rate_122 : decode cX8_rate 122 = .ok (.iaload, 1) := by decide +kernel
theorem dX8_rate_123 : decode cX8_rate 123 = .ok (.invokevirtual 260, 3) := by decide +kernel
theorem dX8_rate_126 : decode cX8_rate 126 = .ok (.ireturn, 1) := by decide +kernel
theorem dX8_rate_127 : decode cX8_rate 127 = .ok (.aload_n 0, 1) := by decide +kernel
theorem dX8_rate_128 : decode cX8_rate 128 = .ok (.getfield 79, 3) := by decide +kernel
theorem dX8_rate_131 : decode cX8_rate 131 = .ok (.iload_n 3, 1) := by decide +kernel
theorem dX8_rate_132 : decode cX8_rate 132 = .ok (.aload_n 0, 1) := by decide +kernel
theorem dX8_rate_133 : decode cX8_rate 133 = .ok (.getfield 36, 3) := by decide +kernel
theorem dX8_rate_136 : decode cX8_rate 136 = .ok (.getfield 116, 3) := by decide +kernel
theorem dX8_rate_139 : decode cX8_rate 139 = .ok (.iload_n 2, 1) := by decide +kernel
theorem dX8_rate_140 : decode cX8_rate 140 = .ok (.iaload, 1) := by decide +kernel
theorem dX8_rate_141 : decode cX8_rate 141 = .ok (.iload_n 2, 1) := by decide +kernel
theorem dX8_rate_142 : decode cX8_rate 142 = .ok (.invokevirtual 263, 3) := by decide +kernel
theorem dX8_rate_145 : decode cX8_rate 145 = .ok (.ireturn, 1) := by decide +kernel
theorem dX8_rate_146 : decode cX8_rate 146 = .ok (.aload_n 0, 1) := by decide +kernel
theorem dX8_rate_147 : decode cX8_rate 147 = .ok (.getfield 79, 3) := by decide +kernel
theorem dX8_rate_150 : decode cX8_rate 150 = .ok (.iload_n 3, 1) := by decide +kernel
theorem dX8_rate_151 : decode cX8_rate 151 = .ok (.aload_n 0, 1) := by decide +kernel
theorem dX8_rate_152 : decode cX8_rate 152 = .ok (.getfield 26, 3) := by decide +kernel
theorem dX8_rate_155 : decode cX8_rate 155 = .ok (.aload_n 0, 1) := by decide +kernel
theorem dX8_rate_156 : decode cX8_rate 156 = .ok (.getfield 36, 3) := by decide +kernel
theorem dX8_rate_159 : decode cX8_rate 159 = .ok (.getfield 138, 3) := by decide +kernel
theorem dX8_rate_162 : decode cX8_rate 162 = .ok (.invokevirtual 141, 3) := by decide +kernel
theorem dX8_rate_165 : decode cX8_rate 165 = .ok (.invokevirtual 267, 3) := by decide +kernel
theorem dX8_rate_168 : decode cX8_rate 168 = .ok (.ireturn, 1) := by decide +kernel
theorem dX8_rate_169 : decode cX8_rate 169 = .ok (.ldc 244, 2) := by decide +kernel
theorem dX8_rate_171 : decode cX8_rate 171 = .ok (.ireturn, 1) := by decide +kernel
theorem dX8_keep_0 : decode cX8_keep 0 = .ok (.iload_n 1, 1) := by decide +kernel
theorem dX8_keep_1 : decode cX8_keep 1 = .ok (.ifCond .lt 8, 3) := by decide +kernel
theorem dX8_keep_4 : decode cX8_keep 4 = .ok (.iload_n 1, 1) := by decide +kernel
theorem dX8_keep_5 : decode cX8_keep 5 = .ok (.iconst 2, 1) := by decide +kernel
theorem dX8_keep_6 : decode cX8_keep 6 = .ok (.if_icmp .lt 5, 3) := by decide +kernel
theorem dX8_keep_9 : decode cX8_keep 9 = .ok (.iconst (-1), 1) := by decide +kernel
theorem dX8_keep_10 : decode cX8_keep 10 = .ok (.ireturn, 1) := by decide +kernel
theorem dX8_keep_11 : decode cX8_keep 11 = .ok (.aload_n 0, 1) := by decide +kernel
theorem dX8_keep_12 : decode cX8_keep 12 = .ok (.getfield 50, 3) := by decide +kernel
theorem dX8_keep_15 : decode cX8_keep 15 = .ok (.iload_n 1, 1) := by decide +kernel
theorem dX8_keep_16 : decode cX8_keep 16 = .ok (.aaload, 1) := by decide +kernel
theorem dX8_keep_17 : decode cX8_keep 17 = .ok (.astore_n 2, 1) := by decide +kernel
theorem dX8_keep_18 : decode cX8_keep 18 = .ok (.aload_n 2, 1) := by decide +kernel
theorem dX8_keep_19 : decode cX8_keep 19 = .ok (.ifnull 18, 3) := by decide +kernel
theorem dX8_keep_22 : decode cX8_keep 22 = .ok (.aload_n 2, 1) := by decide +kernel
theorem dX8_keep_23 : decode cX8_keep 23 = .ok (.aload_n 0, 1) := by decide +kernel
theorem dX8_keep_24 : decode cX8_keep 24 = .ok (.getfield 36, 3) := by decide +kernel
theorem dX8_keep_27 : decode cX8_keep 27 = .ok (.invokevirtual 102, 3) := by decide +kernel
theorem dX8_keep_30 : decode cX8_keep 30 = .ok (.aload_n 0, 1) := by decide +kernel
theorem dX8_keep_31 : decode cX8_keep 31 = .ok (.getfield 54, 3) := by decide +kernel
theorem dX8_keep_34 : decode cX8_keep 34 = .ok (.iload_n 1, 1) := by decide +kernel
theorem dX8_keep_35 : decode cX8_keep 35 = .ok (.iconst 1, 1) := by decide +kernel
theorem dX8_keep_36 : decode cX8_keep 36 = .ok (.bastore, 1) := by decide +kernel
theorem dX8_keep_37 : decode cX8_keep 37 = .ok (.aload_n 0, 1) := by decide +kernel
theorem dX8_keep_38 : decode cX8_keep 38 = .ok (.getfield 36, 3) := by decide +kernel
theorem dX8_keep_41 : decode cX8_keep 41 = .ok (.getfield 135, 3) := by decide +kernel
theorem dX8_keep_44 : decode cX8_keep 44 = .ok (.ireturn, 1) := by decide +kernel
theorem dX8_back_0 : decode cX8_back 0 = .ok (.iload_n 1, 1) := by decide +kernel
theorem dX8_back_1 : decode cX8_back 1 = .ok (.ifCond .lt 8, 3) := by decide +kernel
theorem dX8_back_4 : decode cX8_back 4 = .ok (.iload_n 1, 1) := by decide +kernel
theorem dX8_back_5 : decode cX8_back 5 = .ok (.iconst 2, 1) := by decide +kernel
theorem dX8_back_6 : decode cX8_back 6 = .ok (.if_icmp .lt 5, 3) := by decide +kernel
theorem dX8_back_9 : decode cX8_back 9 = .ok (.iconst (-1), 1) := by decide +kernel
theorem dX8_back_10 : decode cX8_back 10 = .ok (.ireturn, 1) := by decide +kernel
theorem dX8_back_11 : decode cX8_back 11 = .ok (.aload_n 0, 1) := by decide +kernel
theorem dX8_back_12 : decode cX8_back 12 = .ok (.getfield 50, 3) := by decide +kernel
theorem dX8_back_15 : decode cX8_back 15 = .ok (.iload_n 1, 1) := by decide +kernel
theorem dX8_back_16 : decode cX8_back 16 = .ok (.aaload, 1) := by decide +kernel
theorem dX8_back_17 : decode cX8_back 17 = .ok (.astore_n 2, 1) := by decide +kernel
theorem dX8_back_18 : decode cX8_back 18 = .ok (.aload_n 2, 1) := by decide +kernel
theorem dX8_back_19 : decode cX8_back 19 = .ok (.ifnull 12, 3) := by decide +kernel
theorem dX8_back_22 : decode cX8_back 22 = .ok (.aload_n 0, 1) := by decide +kernel
theorem dX8_back_23 : decode cX8_back 23 = .ok (.getfield 54, 3) := by decide +kernel
theorem dX8_back_26 : decode cX8_back 26 = .ok (.iload_n 1, 1) := by decide +kernel
theorem dX8_back_27 : decode cX8_back 27 = .ok (.baload, 1) := by decide +kernel
theorem dX8_back_28 : decode cX8_back 28 = .ok (.ifCond .ne 6, 3) := by decide +kernel
theorem dX8_back_31 : decode cX8_back 31 = .ok (.bipush (-2), 2) := by decide +kernel
theorem dX8_back_33 : decode cX8_back 33 = .ok (.ireturn, 1) := by decide +kernel
theorem dX8_back_34 : decode cX8_back 34 = .ok (.aload_n 0, 1) := by decide +kernel
theorem dX8_back_35 : decode cX8_back 35 = .ok (.getfield 36, 3) := by decide +kernel
theorem dX8_back_38 : decode cX8_back 38 = .ok (.aload_n 2, 1) := by decide +kernel
theorem dX8_back_39 : decode cX8_back 39 = .ok (.invokevirtual 102, 3) := by decide +kernel
theorem dX8_back_42 : decode cX8_back 42 = .ok (.aload_n 0, 1) := by decide +kernel
theorem dX8_back_43 : decode cX8_back 43 = .ok (.getfield 46, 3) := by decide +kernel
theorem dX8_back_46 : decode cX8_back 46 = .ok (.iconst 0, 1) := by decide +kernel
theorem dX8_back_47 : decode cX8_back 47 = .ok (.putfield 108, 3) := by decide +kernel
theorem dX8_back_50 : decode cX8_back 50 = .ok (.aload_n 0, 1) := by decide +kernel
theorem dX8_back_51 : decode cX8_back 51 = .ok (.getfield 36, 3) := by decide +kernel
theorem dX8_back_54 : decode cX8_back 54 = .ok (.getfield 135, 3) := by decide +kernel
theorem dX8_back_57 : decode cX8_back 57 = .ok (.ireturn, 1) := by decide +kernel
theorem dX8_count_0 : decode cX8_count 0 = .ok (.iload_n 1, 1) := by decide +kernel
theorem dX8_count_1 : decode cX8_count 1 = .ok (.tableswitch 103 0 6 #[43, 53, 61, 71, 79, 87, 95], 43) := by decide +kernel
theorem dX8_count_44 : decode cX8_count 44 = .ok (.aload_n 0, 1) := by decide +kernel
theorem dX8_count_45 : decode cX8_count 45 = .ok (.getfield 26, 3) := by decide +kernel
theorem dX8_count_48 : decode cX8_count 48 = .ok (.getfield 270, 3) := by decide +kernel
theorem dX8_count_51 : decode cX8_count 51 = .ok (.iconst 1, 1) := by decide +kernel
theorem dX8_count_52 : decode cX8_count 52 = .ok (.iaload, 1) := by decide +kernel
theorem dX8_count_53 : decode cX8_count 53 = .ok (.ireturn, 1) := by decide +kernel
theorem dX8_count_54 : decode cX8_count 54 = .ok (.aload_n 0, 1) := by decide +kernel
theorem dX8_count_55 : decode cX8_count 55 = .ok (.getfield 26, 3) := by decide +kernel
theorem dX8_count_58 : decode cX8_count 58 = .ok (.invokevirtual 155, 3) := by decide +kernel
theorem dX8_count_61 : decode cX8_count 61 = .ok (.ireturn, 1) := by decide +kernel
theorem dX8_count_62 : decode cX8_count 62 = .ok (.aload_n 0, 1) := by decide +kernel
theorem dX8_count_63 : decode cX8_count 63 = .ok (.getfield 26, 3) := by decide +kernel
theorem dX8_count_66 : decode cX8_count 66 = .ok (.getfield 270, 3) := by decide +kernel
theorem dX8_count_69 : decode cX8_count 69 = .ok (.iconst 3, 1) := by decide +kernel
theorem dX8_count_70 : decode cX8_count 70 = .ok (.iaload, 1) := by decide +kernel
theorem dX8_count_71 : decode cX8_count 71 = .ok (.ireturn, 1) := by decide +kernel
theorem dX8_count_72 : decode cX8_count 72 = .ok (.aload_n 0, 1) := by decide +kernel
theorem dX8_count_73 : decode cX8_count 73 = .ok (.getfield 26, 3) := by decide +kernel
theorem dX8_count_76 : decode cX8_count 76 = .ok (.invokevirtual 151, 3) := by decide +kernel
theorem dX8_count_79 : decode cX8_count 79 = .ok (.ireturn, 1) := by decide +kernel
theorem dX8_count_80 : decode cX8_count 80 = .ok (.aload_n 0, 1) := by decide +kernel
theorem dX8_count_81 : decode cX8_count 81 = .ok (.getfield 26, 3) := by decide +kernel
theorem dX8_count_84 : decode cX8_count 84 = .ok (.getfield 273, 3) := by decide +kernel
theorem dX8_count_87 : decode cX8_count 87 = .ok (.ireturn, 1) := by decide +kernel
theorem dX8_count_88 : decode cX8_count 88 = .ok (.aload_n 0, 1) := by decide +kernel
theorem dX8_count_89 : decode cX8_count 89 = .ok (.getfield 61, 3) := by decide +kernel
theorem dX8_count_92 : decode cX8_count 92 = .ok (.getfield 105, 3) := by decide +kernel
theorem dX8_count_95 : decode cX8_count 95 = .ok (.ireturn, 1) := by decide +kernel
theorem dX8_count_96 : decode cX8_count 96 = .ok (.aload_n 0, 1) := by decide +kernel
theorem dX8_count_97 : decode cX8_count 97 = .ok (.getfield 10, 3) := by decide +kernel
theorem dX8_count_100 : decode cX8_count 100 = .ok (.getfield 87, 3) := by decide +kernel
theorem dX8_count_103 : decode cX8_count 103 = .ok (.ireturn, 1) := by decide +kernel
theorem dX8_count_104 : decode cX8_count 104 = .ok (.iconst (-1), 1) := by decide +kernel
theorem dX8_count_105 : decode cX8_count 105 = .ok (.ireturn, 1) := by decide +kernel
theorem dX8_trace_0 : decode cX8_trace 0 = .ok (.aload_n 0, 1) := by decide +kernel
theorem dX8_trace_1 : decode cX8_trace 1 = .ok (.getfield 79, 3) := by decide +kernel
theorem dX8_trace_4 : decode cX8_trace 4 = .ok (.getfield 276, 3) := by decide +kernel
theorem dX8_trace_7 : decode cX8_trace 7 = .ok (.lreturn, 1) := by decide +kernel
theorem dX8_bitOf_0 : decode cX8_bitOf 0 = .ok (.iload_n 0, 1) := by decide +kernel
theorem dX8_bitOf_1 : decode cX8_bitOf 1 = .ok (.iload_n 1, 1) := by decide +kernel
theorem dX8_bitOf_2 : decode cX8_bitOf 2 = .ok (.ishr, 1) := by decide +kernel
theorem dX8_bitOf_3 : decode cX8_bitOf 3 = .ok (.iconst 1, 1) := by decide +kernel
theorem dX8_bitOf_4 : decode cX8_bitOf 4 = .ok (.iand, 1) := by decide +kernel
theorem dX8_bitOf_5 : decode cX8_bitOf 5 = .ok (.ireturn, 1) := by decide +kernel
theorem dX9_init_0 : decode cX9_init 0 = .ok (.aload_n 0, 1) := by decide +kernel
theorem dX9_init_1 : decode cX9_init 1 = .ok (.invokespecial 1, 3) := by decide +kernel
theorem dX9_init_4 : decode cX9_init 4 = .ok (.aload_n 0, 1) := by decide +kernel
theorem dX9_init_5 : decode cX9_init 5 = .ok (.sipush 200, 3) := by decide +kernel
theorem dX9_init_8 : decode cX9_init 8 = .ok (.newarray .int, 2) := by decide +kernel
theorem dX9_init_10 : decode cX9_init 10 = .ok (.putfield 7, 3) := by decide +kernel
theorem dX9_init_13 : decode cX9_init 13 = .ok (.aload_n 0, 1) := by decide +kernel
theorem dX9_init_14 : decode cX9_init 14 = .ok (.bipush 32, 2) := by decide +kernel
theorem dX9_init_16 : decode cX9_init 16 = .ok (.newarray .int, 2) := by decide +kernel
theorem dX9_init_18 : decode cX9_init 18 = .ok (.putfield 13, 3) := by decide +kernel
theorem dX9_init_21 : decode cX9_init 21 = .ok (.aload_n 0, 1) := by decide +kernel
theorem dX9_init_22 : decode cX9_init 22 = .ok (.bipush 32, 2) := by decide +kernel
theorem dX9_init_24 : decode cX9_init 24 = .ok (.newarray .int, 2) := by decide +kernel
theorem dX9_init_26 : decode cX9_init 26 = .ok (.putfield 16, 3) := by decide +kernel
theorem dX9_init_29 : decode cX9_init 29 = .ok (.aload_n 0, 1) := by decide +kernel
theorem dX9_init_30 : decode cX9_init 30 = .ok (.bipush 59, 2) := by decide +kernel
theorem dX9_init_32 : decode cX9_init 32 = .ok (.newarray .int, 2) := by decide +kernel
theorem dX9_init_34 : decode cX9_init 34 = .ok (.putfield 19, 3) := by decide +kernel
theorem dX9_init_37 : decode cX9_init 37 = .ok (.aload_n 0, 1) := by decide +kernel
theorem dX9_init_38 : decode cX9_init 38 = .ok (.sipush 472, 3) := by decide +kernel
theorem dX9_init_41 : decode cX9_init 41 = .ok (.newarray .int, 2) := by decide +kernel
theorem dX9_init_43 : decode cX9_init 43 = .ok (.putfield 22, 3) := by decide +kernel
theorem dX9_init_46 : decode cX9_init 46 = .ok (.aload_n 0, 1) := by decide +kernel
theorem dX9_init_47 : decode cX9_init 47 = .ok (.bipush 118, 2) := by decide +kernel
theorem dX9_init_49 : decode cX9_init 49 = .ok (.newarray .int, 2) := by decide +kernel
theorem dX9_init_51 : decode cX9_init 51 = .ok (.putfield 25, 3) := by decide +kernel
theorem dX9_init_54 : decode cX9_init 54 = .ok (.aload_n 0, 1) := by decide +kernel
theorem dX9_init_55 : decode cX9_init 55 = .ok (.iconst 2, 1) := by decide +kernel
theorem dX9_init_56 : decode cX9_init 56 = .ok (.newarray .boolean, 2) := by decide +kernel
theorem dX9_init_58 : decode cX9_init 58 = .ok (.putfield 28, 3) := by decide +kernel
theorem dX9_init_61 : decode cX9_init 61 = .ok (.aload_n 0, 1) := by decide +kernel
theorem dX9_init_62 : decode cX9_init 62 = .ok (.bipush 8, 2) := by decide +kernel
theorem dX9_init_64 : decode cX9_init 64 = .ok (.newarray .int, 2) := by decide +kernel
theorem dX9_init_66 : decode cX9_init 66 = .ok (.putfield 32, 3) := by decide +kernel
theorem dX9_init_69 : decode cX9_init 69 = .ok (.aload_n 0, 1) := by decide +kernel
theorem dX9_init_70 : decode cX9_init 70 = .ok (.bipush 59, 2) := by decide +kernel
theorem dX9_init_72 : decode cX9_init 72 = .ok (.newarray .int, 2) := by decide +kernel
theorem dX9_init_74 : decode cX9_init 74 = .ok (.putfield 35, 3) := by decide +kernel
theorem dX9_init_77 : decode cX9_init 77 = .ok (.aload_n 0, 1) := by decide +kernel
theorem dX9_init_78 : decode cX9_init 78 = .ok (.invokevirtual 38, 3) := by decide +kernel
theorem dX9_init_81 : decode cX9_init 81 = .ok (.pop, 1) := by decide +kernel
theorem dX9_init_82 : decode cX9_init 82 = .ok (.aload_n 0, 1) := by decide +kernel
theorem dX9_init_83 : decode cX9_init 83 = .ok (.invokevirtual 42, 3) := by decide +kernel
theorem dX9_init_86 : decode cX9_init 86 = .ok (.return_, 1) := by decide +kernel
theorem dX9_in_0 : decode cX9_in 0 = .ok (.iload_n 0, 1) := by decide +kernel
theorem dX9_in_1 : decode cX9_in 1 = .ok (.iload_n 1, 1) := by decide +kernel
theorem dX9_in_2 : decode cX9_in 2 = .ok (.if_icmp .lt 12, 3) := by decide +kernel
theorem dX9_in_5 : decode cX9_in 5 = .ok (.iload_n 0, 1) := by decide +kernel
theorem dX9_in_6 : decode cX9_in 6 = .ok (.iload_n 2, 1) := by decide +kernel
theorem dX9_in_7 : decode cX9_in 7 = .ok (.if_icmp .gt 7, 3) := by decide +kernel
theorem dX9_in_10 : decode cX9_in 10 = .ok (.iconst 1, 1) := by decide +kernel
theorem dX9_in_11 : decode cX9_in 11 = .ok (.goto 4, 3) := by decide +kernel
theorem dX9_in_14 : decode cX9_in 14 = .ok (.iconst 0, 1) := by decide +kernel
theorem dX9_in_15 : decode cX9_in 15 = .ok (.ireturn, 1) := by decide +kernel
theorem dX9_isNumber_0 : decode cX9_isNumber 0 = .ok (.iload_n 0, 1) := by decide +kernel
theorem dX9_isNumber_1 : decode cX9_isNumber 1 = .ok (.iconst 0, 1) := by decide +kernel
theorem dX9_isNumber_2 : decode cX9_isNumber 2 = .ok (.bipush 7, 2) := by decide +kernel
theorem dX9_isNumber_4 : decode cX9_isNumber 4 = .ok (.invokestatic 45, 3) := by decide +kernel
theorem dX9_isNumber_7 : decode cX9_isNumber 7 = .ok (.ireturn, 1) := by decide +kernel
theorem dX9_isThere_0 : decode cX9_isThere 0 = .ok (.iload_n 1, 1) := by decide +kernel
theorem dX9_isThere_1 : decode cX9_isThere 1 = .ok (.invokestatic 49, 3) := by decide +kernel
theorem dX9_isThere_4 : decode cX9_isThere 4 = .ok (.ifCond .eq 20, 3) := by decide +kernel
theorem dX9_isThere_7 : decode cX9_isThere 7 = .ok (.aload_n 0, 1) := by decide +kernel
theorem dX9_isThere_8 : decode cX9_isThere 8 = .ok (.getfield 19, 3) := by decide +kernel
theorem dX9_isThere_11 : decode cX9_isThere 11 = .ok (.bipush 51, 2) := by decide +kernel
theorem dX9_isThere_13 : decode cX9_isThere 13 = .ok (.iload_n 1, 1) := by decide +kernel
theorem dX9_isThere_14 : decode cX9_isThere 14 = .ok (.iadd, 1) := by decide +kernel
theorem dX9_isThere_15 : decode cX9_isThere 15 = .ok (.iaload, 1) := by decide +kernel
theorem dX9_isThere_16 : decode cX9_isThere 16 = .ok (.iconst 1, 1) := by decide +kernel
theorem dX9_isThere_17 : decode cX9_isThere 17 = .ok (.if_icmp .ne 7, 3) := by decide +kernel
theorem dX9_isThere_20 : decode cX9_isThere 20 = .ok (.iconst 1, 1) := by decide +kernel
theorem dX9_isThere_21 : decode cX9_isThere 21 = .ok (.goto 4, 3) := by decide +kernel
theorem dX9_isThere_24 : decode cX9_isThere 24 = .ok (.iconst 0, 1) := by decide +kernel
theorem dX9_isThere_25 : decode cX9_isThere 25 = .ok (.ireturn, 1) := by decide +kernel
theorem dX9_ones_0 : decode cX9_ones 0 = .ok (.iconst 0, 1) := by decide +kernel
theorem dX9_ones_1 : decode cX9_ones 1 = .ok (.istore_n 1, 1) := by decide +kernel
theorem dX9_ones_2 : decode cX9_ones 2 = .ok (.iconst 0, 1) := by decide +kernel
theorem dX9_ones_3 : decode cX9_ones 3 = .ok (.istore_n 2, 1) := by decide +kernel
theorem dX9_ones_4 : decode cX9_ones 4 = .ok (.iload_n 2, 1) := by decide +kernel
theorem dX9_ones_5 : decode cX9_ones 5 = .ok (.bipush 8, 2) := by decide +kernel
theorem dX9_ones_7 : decode cX9_ones 7 = .ok (.if_icmp .ge 17, 3) := by decide +kernel
theorem dX9_ones_10 : decode cX9_ones 10 = .ok (.iload_n 1, 1) := by decide +kernel
theorem dX9_ones_11 : decode cX9_ones 11 = .ok (.iload_n 0, 1) := by decide +kernel
theorem dX9_ones_12 : decode cX9_ones 12 = .ok (.iload_n 2, 1) := by decide +kernel
theorem dX9_ones_13 : decode cX9_ones 13 = .ok (.ishr, 1) := by decide +kernel
theorem dX9_ones_14 : decode cX9_ones 14 = .ok (.iconst 1, 1) := by decide +kernel
theorem dX9_ones_15 : decode cX9_ones 15 = .ok (.iand, 1) := by decide +kernel
theorem dX9_ones_16 : decode cX9_ones 16 = .ok (.iadd, 1) := by decide +kernel
theorem dX9_ones_17 : decode cX9_ones 17 = .ok (.istore_n 1, 1) := by decide +kernel
theorem dX9_ones_18 : decode cX9_ones 18 = .ok (.iinc 2 1, 3) := by decide +kernel
theorem dX9_ones_21 : decode cX9_ones 21 = .ok (.goto (-17), 3) := by decide +kernel
theorem dX9_ones_24 : decode cX9_ones 24 = .ok (.iload_n 1, 1) := by decide +kernel
theorem dX9_ones_25 : decode cX9_ones 25 = .ok (.ireturn, 1) := by decide +kernel
theorem dX9_type_0 : decode cX9_type 0 = .ok (.iload_n 1, 1) := by decide +kernel
theorem dX9_type_1 : decode cX9_type 1 = .ok (.iconst 0, 1) := by decide +kernel
theorem dX9_type_2 : decode cX9_type 2 = .ok (.sipush 255, 3) := by decide +kernel
theorem dX9_type_5 : decode cX9_type 5 = .ok (.invokestatic 45, 3) := by decide +kernel
theorem dX9_type_8 : decode cX9_type 8 = .ok (.ifCond .ne 5, 3) := by decide +kernel
theorem dX9_type_11 : decode cX9_type 11 = .ok (.iconst (-1), 1) := by decide +kernel
theorem dX9_type_12 : decode cX9_type 12 = .ok (.ireturn, 1) := by decide +kernel
theorem dX9_type_13 : decode cX9_type 13 = .ok (.aload_n 0, 1) := by decide +kernel
theorem dX9_type_14 : decode cX9_type 14 = .ok (.getfield 53, 3) := by decide +kernel
theorem dX9_type_17 : decode cX9_type 17 = .ok (.sipush 200, 3) := by decide +kernel
theorem dX9_type_20 : decode cX9_type 20 = .ok (.if_icmp .ne 6, 3) := by decide +kernel
theorem dX9_type_23 : decode cX9_type 23 = .ok (.bipush (-3), 2) := by decide +kernel
theorem dX9_type_25 : decode cX9_type 25 = .ok (.ireturn, 1) := by decide +kernel
theorem dX9_type_26 : decode cX9_type 26 = .ok (.aload_n 0, 1) := by decide +kernel
theorem dX9_type_27 : decode cX9_type 27 = .ok (.getfield 7, 3) := by decide +kernel
theorem dX9_type_30 : decode cX9_type 30 = .ok (.aload_n 0, 1) := by decide +kernel
theorem dX9_type_31 : decode cX9_type 31 = .ok (.getfield 53, 3) := by decide +kernel
theorem dX9_type_34 : decode cX9_type 34 = .ok (.iload_n 1, 1) := by decide +kernel
theorem dX9_type_35 : decode cX9_type 35 = .ok (.iastore, 1) := by decide +kernel
theorem dX9_type_36 : decode cX9_type 36 = .ok (.aload_n 0, 1) := by decide +kernel
theorem dX9_type_37 : decode cX9_type 37 = .ok (.dup, 1) := by decide +kernel
theorem dX9_type_38 : decode cX9_type 38 = .ok (.getfield 53, 3) := by decide +kernel
theorem dX9_type_41 : decode cX9_type 41 = .ok (.iconst 1, 1) := by decide +kernel
theorem dX9_type_42 : decode cX9_type 42 = .ok (.iadd, 1) := by decide +kernel
theorem dX9_type_43 : decode cX9_type 43 = .ok (.putfield 53, 3) := by decide +kernel
theorem dX9_type_46 : decode cX9_type 46 = .ok (.aload_n 0, 1) := by decide +kernel
theorem dX9_type_47 : decode cX9_type 47 = .ok (.getfield 53, 3) := by decide +kernel
theorem dX9_type_50 : decode cX9_type 50 = .ok (.ireturn, 1) := by decide +kernel
theorem dX9_clear_0 : decode cX9_clear 0 = .ok (.aload_n 0, 1) := by decide +kernel
theorem dX9_clear_1 : decode cX9_clear 1 = .ok (.getfield 53, 3) := by decide +kernel
theorem dX9_clear_4 : decode cX9_clear 4 = .ok (.istore_n 1, 1) := by decide +kernel
theorem dX9_clear_5 : decode cX9_clear 5 = .ok (.aload_n 0, 1) := by decide +kernel
theorem dX9_clear_6 : decode cX9_clear 6 = .ok (.iconst 0, 1) := by decide +kernel
theorem dX9_clear_7 : decode cX9_clear 7 = .ok (.putfield 53, 3) := by decide +kernel
theorem dX9_clear_10 : decode cX9_clear 10 = .ok (.iload_n 1, 1) := by decide +kernel
theorem dX9_clear_11 : decode cX9_clear 11 = .ok (.ireturn, 1) := by decide +kernel
theorem dX9_letterAt_0 : decode cX9_letterAt 0 = .ok (.iload_n 1, 1) := by decide +kernel
theorem dX9_letterAt_1 : decode cX9_letterAt 1 = .ok (.aload_n 0, 1) := by decide +kernel
theorem dX9_letterAt_2 : decode cX9_letterAt 2 = .ok (.getfield 53, 3) := by decide +kernel
theorem dX9_letterAt_5 : decode cX9_letterAt 5 = .ok (.if_icmp .ge 12, 3) := by decide +kernel
theorem dX9_letterAt_8 : decode cX9_letterAt 8 = .ok (.aload_n 0, 1) := by decide +kernel
theorem dX9_letterAt_9 : decode cX9_letterAt 9 = .ok (.getfield 7, 3) := by decide +kernel
theorem dX9_letterAt_12 : decode cX9_letterAt 12 = .ok (.iload_n 1, 1) := by decide +kernel
theorem dX9_letterAt_13 : decode cX9_letterAt 13 = .ok (.iaload, 1) := by decide +kernel
theorem dX9_letterAt_14 : decode cX9_letterAt 14 = .ok (.goto 4, 3) := by decide +kernel
theorem dX9_letterAt_17 : decode cX9_letterAt 17 = .ok (.iconst (-1), 1) := by decide +kernel
theorem dX9_letterAt_18 : decode cX9_letterAt 18 = .ok (.ireturn, 1) := by decide +kernel
theorem dX9_isDigit_0 : decode cX9_isDigit 0 = .ok (.iload_n 0, 1) := by decide +kernel
theorem dX9_isDigit_1 : decode cX9_isDigit 1 = .ok (.bipush 48, 2) := by decide +kernel
theorem dX9_isDigit_3 : decode cX9_isDigit 3 = .ok (.bipush 57, 2) := by decide +kernel
theorem dX9_isDigit_5 : decode cX9_isDigit 5 = .ok (.invokestatic 45, 3) := by decide +kernel
theorem dX9_isDigit_8 : decode cX9_isDigit 8 = .ok (.ireturn, 1) := by decide +kernel
theorem dX9_itemOf_0 : decode cX9_itemOf 0 = .ok (.iload_n 0, 1) := by decide +kernel
theorem dX9_itemOf_1 : decode cX9_itemOf 1 = .ok (.bipush 119, 2) := by decide +kernel
theorem dX9_itemOf_3 : decode cX9_itemOf 3 = .ok (.if_icmp .ne 7, 3) := by decide +kernel
theorem dX9_itemOf_6 : decode cX9_itemOf 6 = .ok (.iconst 0, 1) := by decide +kernel
theorem dX9_itemOf_7 : decode cX9_itemOf 7 = .ok (.goto 54, 3) := by decide +kernel
theorem dX9_itemOf_10 : decode cX9_itemOf 10 = .ok (.iload_n 0, 1) := by decide +kernel
theorem dX9_itemOf_11 : decode cX9_itemOf 11 = .ok (.bipush 97, 2) := by decide +kernel
theorem dX9_itemOf_13 : decode cX9_itemOf 13 = .ok (.if_icmp .ne 7, 3) := by decide +kernel
theorem dX9_itemOf_16 : decode cX9_itemOf 16 = .ok (.iconst 1, 1) := by decide +kernel
theorem dX9_itemOf_17 : decode cX9_itemOf 17 = .ok (.goto 44, 3) := by decide +kernel
theorem dX9_itemOf_20 : decode cX9_itemOf 20 = .ok (.iload_n 0, 1) := by decide +kernel
theorem dX9_itemOf_21 : decode cX9_itemOf 21 = .ok (.bipush 100, 2) := by decide +kernel
theorem dX9_itemOf_23 : decode cX9_itemOf 23 = .ok (.if_icmp .ne 7, 3) := by decide +kernel
theorem dX9_itemOf_26 : decode cX9_itemOf 26 = .ok (.iconst 2, 1) := by decide +kernel
theorem dX9_itemOf_27 : decode cX9_itemOf 27 = .ok (.goto 34, 3) := by decide +kernel
theorem dX9_itemOf_30 : decode cX9_itemOf 30 = .ok (.iload_n 0, 1) := by decide +kernel
theorem dX9_itemOf_31 : decode cX9_itemOf 31 = .ok (.bipush 109, 2) := by decide +kernel
theorem dX9_itemOf_33 : decode cX9_itemOf 33 = .ok (.if_icmp .ne 7, 3) := by decide +kernel
theorem dX9_itemOf_36 : decode cX9_itemOf 36 = .ok (.iconst 3, 1) := by decide +kernel
theorem dX9_itemOf_37 : decode cX9_itemOf 37 = .ok (.goto 24, 3) := by decide +kernel
theorem dX9_itemOf_40 : decode cX9_itemOf 40 = .ok (.iload_n 0, 1) := by decide +kernel
theorem dX9_itemOf_41 : decode cX9_itemOf 41 = .ok (.bipush 115, 2) := by decide +kernel
theorem dX9_itemOf_43 : decode cX9_itemOf 43 = .ok (.if_icmp .ne 7, 3) := by decide +kernel
theorem dX9_itemOf_46 : decode cX9_itemOf 46 = .ok (.iconst 4, 1) := by decide +kernel
theorem dX9_itemOf_47 : decode cX9_itemOf 47 = .ok (.goto 14, 3) := by decide +kernel
theorem dX9_itemOf_50 : decode cX9_itemOf 50 = .ok (.iload_n 0, 1) := by decide +kernel
theorem dX9_itemOf_51 : decode cX9_itemOf 51 = .ok (.bipush 98, 2) := by decide +kernel
theorem dX9_itemOf_53 : decode cX9_itemOf 53 = .ok (.if_icmp .ne 7, 3) := by decide +kernel
theorem dX9_itemOf_56 : decode cX9_itemOf 56 = .ok (.iconst 5, 1) := by decide +kernel
theorem dX9_itemOf_57 : decode cX9_itemOf 57 = .ok (.goto 4, 3) := by decide +kernel
theorem dX9_itemOf_60 : decode cX9_itemOf 60 = .ok (.iconst (-1), 1) := by decide +kernel
theorem dX9_itemOf_61 : decode cX9_itemOf 61 = .ok (.ireturn, 1) := by decide +kernel
theorem dX9_token_0 : decode cX9_token 0 = .ok (.aload_n 0, 1) := by decide +kernel
theorem dX9_token_1 : decode cX9_token 1 = .ok (.aload_n 0, 1) := by decide +kernel
theorem dX9_token_2 : decode cX9_token 2 = .ok (.getfield 57, 3) := by decide +kernel
theorem dX9_token_5 : decode cX9_token 5 = .ok (.invokevirtual 60, 3) := by decide +kernel
theorem dX9_token_8 : decode cX9_token 8 = .ok (.bipush 32, 2) := by decide +kernel
theorem dX9_token_10 : decode cX9_token 10 = .ok (.if_icmp .ne 16, 3) := by decide +kernel
theorem dX9_token_13 : decode cX9_token 13 = .ok (.aload_n 0, 1) := by decide +kernel
theorem dX9_token_14 : decode cX9_token 14 = .ok (.dup, 1) := by decide +kernel
theorem dX9_token_15 : decode cX9_token 15 = .ok (.getfield 57, 3) := by decide +kernel
theorem dX9_token_18 : decode cX9_token 18 = .ok (.iconst 1, 1) := by decide +kernel
theorem dX9_token_19 : decode cX9_token 19 = .ok (.iadd, 1) := by decide +kernel
theorem dX9_token_20 : decode cX9_token 20 = .ok (.putfield 57, 3) := by decide +kernel
theorem dX9_token_23 : decode cX9_token 23 = .ok (.goto (-23), 3) := by decide +kernel
theorem dX9_token_26 : decode cX9_token 26 = .ok (.aload_n 0, 1) := by decide +kernel
theorem dX9_token_27 : decode cX9_token 27 = .ok (.aload_n 0, 1) := by decide +kernel
theorem dX9_token_28 : decode cX9_token 28 = .ok (.getfield 57, 3) := by decide +kernel
theorem dX9_token_31 : decode cX9_token 31 = .ok (.putfield 64, 3) := by decide +kernel
theorem dX9_token_34 : decode cX9_token 34 = .ok (.aload_n 0, 1) := by decide +kernel
theorem dX9_token_35 : decode cX9_token 35 = .ok (.aload_n 0, 1) := by decide +kernel
theorem dX9_token_36 : decode cX9_token 36 = .ok (.getfield 57, 3) := by decide +kernel
theorem dX9_token_39 : decode cX9_token 39 = .ok (.invokevirtual 60, 3) := by decide +kernel
theorem dX9_token_42 : decode cX9_token 42 = .ok (.istore_n 1, 1) := by decide +kernel
theorem dX9_token_43 : decode cX9_token 43 = .ok (.aload_n 0, 1) := by decide +kernel
theorem dX9_token_44 : decode cX9_token 44 = .ok (.iload_n 1, 1) := by decide +kernel
theorem dX9_token_45 : decode cX9_token 45 = .ok (.ifCond .ge 7, 3) := by decide +kernel
theorem dX9_token_48 : decode cX9_token 48 = .ok (.iconst 0, 1) := by decide +kernel
theorem dX9_token_49 : decode cX9_token 49 = .ok (.goto 36, 3) := by decide +kernel
theorem dX9_token_52 : decode cX9_token 52 = .ok (.iload_n 1, 1) := by decide +kernel
theorem dX9_token_53 : decode cX9_token 53 = .ok (.invokestatic 67, 3) := by decide +kernel
theorem dX9_token_56 : decode cX9_token 56 = .ok (.ifCond .lt 7, 3) := by decide +kernel
theorem dX9_token_59 : decode cX9_token 59 = .ok (.iconst 1, 1) := by decide +kernel
theorem dX9_token_60 : decode cX9_token 60 = .ok (.goto 25, 3) := by decide +kernel
theorem dX9_token_63 : decode cX9_token 63 = .ok (.iload_n 1, 1) := by decide +kernel
theorem dX9_token_64 : decode cX9_token 64 = .ok (.invokestatic 70, 3) := by decide +kernel
theorem dX9_token_67 : decode cX9_token 67 = .ok (.ifCond .eq 7, 3) := by decide +kernel
theorem dX9_token_70 : decode cX9_token 70 = .ok (.iconst 2, 1) := by decide +kernel
theorem dX9_token_71 : decode cX9_token 71 = .ok (.goto 14, 3) := by decide +kernel
theorem dX9_token_74 : decode cX9_token 74 = .ok (.iload_n 1, 1) := by decide +kernel
theorem dX9_token_75 : decode cX9_token 75 = .ok (.bipush 59, 2) := by decide +kernel
theorem dX9_token_77 : decode cX9_token 77 = .ok (.if_icmp .ne 7, 3) := by decide +kernel
theorem dX9_token_80 : decode cX9_token 80 = .ok (.iconst 3, 1) := by decide +kernel
theorem dX9_token_81 : decode cX9_token 81 = .ok (.goto 4, 3) := by decide +kernel
theorem dX9_token_84 : decode cX9_token 84 = .ok (.iconst 4, 1) := by decide +kernel
theorem dX9_token_85 : decode cX9_token 85 = .ok (.putfield 73, 3) := by decide +kernel
theorem dX9_token_88 : decode cX9_token 88 = .ok (.aload_n 0, 1) := by decide +kernel
theorem dX9_token_89 : decode cX9_token 89 = .ok (.iload_n 1, 1) := by decide +kernel
theorem dX9_token_90 : decode cX9_token 90 = .ok (.putfield 76, 3) := by decide +kernel
theorem dX9_token_93 : decode cX9_token 93 = .ok (.aload_n 0, 1) := by decide +kernel
theorem dX9_token_94 : decode cX9_token 94 = .ok (.dup, 1) := by decide +kernel
theorem dX9_token_95 : decode cX9_token 95 = .ok (.getfield 57, 3) := by decide +kernel
theorem dX9_token_98 : decode cX9_token 98 = .ok (.aload_n 0, 1) := by decide +kernel
theorem dX9_token_99 : decode cX9_token 99 = .ok (.getfield 73, 3) := by decide +kernel
theorem dX9_token_102 : decode cX9_token 102 = .ok (.ifCond .ne 7, 3) := by decide +kernel
theorem dX9_token_105 : decode cX9_token 105 = .ok (.iconst 0, 1) := by decide +kernel
theorem dX9_token_106 : decode cX9_token 106 = .ok (.goto 4, 3) := by decide +kernel
theorem dX9_token_109 : decode cX9_token 109 = .ok (.iconst 1, 1) := by decide +kernel
theorem dX9_token_110 : decode cX9_token 110 = .ok (.iadd, 1) := by decide +kernel
theorem dX9_token_111 : decode cX9_token 111 = .ok (.putfield 57, 3) := by decide +kernel
theorem dX9_token_114 : decode cX9_token 114 = .ok (.aload_n 0, 1) := by decide +kernel
theorem dX9_token_115 : decode cX9_token 115 = .ok (.getfield 73, 3) := by decide +kernel
theorem dX9_token_118 : decode cX9_token 118 = .ok (.iconst 2, 1) := by decide +kernel
theorem dX9_token_119 : decode cX9_token 119 = .ok (.if_icmp .ne 83, 3) := by decide +kernel
theorem dX9_token_122 : decode cX9_token 122 = .ok (.aload_n 0, 1) := by decide +kernel
theorem dX9_token_123 : decode cX9_token 123 = .ok (.iload_n 1, 1) := by decide +kernel
theorem dX9_token_124 : decode cX9_token 124 = .ok (.bipush 48, 2) := by decide +kernel
theorem dX9_token_126 : decode cX9_token 126 = .ok (.isub, 1) := by decide +kernel
theorem dX9_token_127 : decode cX9_token 127 = .ok (.putfield 76, 3) := by decide +kernel
theorem dX9_token_130 : decode cX9_token 130 = .ok (.aload_n 0, 1) := by decide +kernel
theorem dX9_token_131 : decode cX9_token 131 = .ok (.aload_n 0, 1) := by decide +kernel
theorem dX9_token_132 : decode cX9_token 132 = .ok (.getfield 57, 3) := by decide +kernel
theorem dX9_token_135 : decode cX9_token 135 = .ok (.invokevirtual 60, 3) := by decide +kernel
theorem dX9_token_138 : decode cX9_token 138 = .ok (.invokestatic 70, 3) := by decide +kernel
theorem dX9_token_141 : decode cX9_token 141 = .ok (.ifCond .eq 61, 3) := by decide +kernel
theorem dX9_token_144 : decode cX9_token 144 = .ok (.aload_n 0, 1) := by decide +kernel
theorem dX9_token_145 : decode cX9_token 145 = .ok (.iload_n 1, 1) := by decide +kernel
theorem dX9_token_146 : decode cX9_token 146 = .ok (.bipush 48, 2) := by decide +kernel
theorem dX9_token_148 : decode cX9_token 148 = .ok (.if_icmp .eq 12, 3) := by decide +kernel
theorem dX9_token_151 : decode cX9_token 151 = .ok (.aload_n 0, 1) := by decide +kernel
theorem dX9_token_152 : decode cX9_token 152 = .ok (.getfield 76, 3) := by decide +kernel
theorem dX9_token_155 : decode cX9_token 155 = .ok (.bipush 99, 2) := by decide +kernel
theorem dX9_token_157 : decode cX9_token 157 = .ok (.if_icmp .le 9, 3) := by decide +kernel
theorem dX9_token_160 : decode cX9_token 160 = .ok (.sipush 1000, 3) := by decide +kernel
theorem dX9_token_163 : decode cX9_token 163 = .ok (.goto 23, 3) := by decide +kernel
theorem dX9_token_166 : decode cX9_token 166 = .ok (.bipush 10, 2) := by decide +kernel
theorem dX9_token_168 : decode cX9_token 168 = .ok (.aload_n 0, 1) := by decide +kernel
theorem dX9_token_169 : decode cX9_token 169 = .ok (.getfield 76, 3) := by decide +kernel
theorem dX9_token_172 : decode cX9_token 172 = .ok (.imul, 1) := by decide +kernel
theorem dX9_token_173 : decode cX9_token 173 = .ok (.aload_n 0, 1) := by decide +kernel
theorem dX9_token_174 : decode cX9_token 174 = .ok (.getfield 7, 3) := by decide +kernel
theorem dX9_token_177 : decode cX9_token 177 = .ok (.aload_n 0, 1) := by decide +kernel
theorem dX9_token_178 : decode cX9_token 178 = .ok (.getfield 57, 3) := by decide +kernel
theorem dX9_token_181 : decode cX9_token 181 = .ok (.iaload, 1) := by decide +kernel
theorem dX9_token_182 : decode cX9_token 182 = .ok (.iadd, 1) := by decide +kernel
theorem dX9_token_183 : decode cX9_token 183 = .ok (.bipush 48, 2) := by decide +kernel
theorem dX9_token_185 : decode cX9_token 185 = .ok (.isub, 1) := by decide +kernel
theorem dX9_token_186 : decode cX9_token 186 = .ok (.putfield 76, 3) := by decide +kernel
theorem dX9_token_189 : decode cX9_token 189 = .ok (.aload_n 0, 1) := by decide +kernel
theorem dX9_token_190 : decode cX9_token 190 = .ok (.dup, 1) := by decide +kernel
theorem dX9_token_191 : decode cX9_token 191 = .ok (.getfield 57, 3) := by decide +kernel
theorem dX9_token_194 : decode cX9_token 194 = .ok (.iconst 1, 1) := by decide +kernel
theorem dX9_token_195 : decode cX9_token 195 = .ok (.iadd, 1) := by decide +kernel
theorem dX9_token_196 : decode cX9_token 196 = .ok (.putfield 57, 3) := by decide +kernel
theorem dX9_token_199 : decode cX9_token 199 = .ok (.goto (-69), 3) := by decide +kernel
theorem dX9_token_202 : decode cX9_token 202 = .ok (.return_, 1) := by decide +kernel
theorem dX9_number_0 : decode cX9_number 0 = .ok (.aload_n 0, 1) := by decide +kernel
theorem dX9_number_1 : decode cX9_number 1 = .ok (.invokevirtual 79, 3) := by decide +kernel
theorem dX9_number_4 : decode cX9_number 4 = .ok (.aload_n 0, 1) := by decide +kernel
theorem dX9_number_5 : decode cX9_number 5 = .ok (.getfield 16, 3) := by decide +kernel
theorem dX9_number_8 : decode cX9_number 8 = .ok (.iload_n 1, 1) := by decide +kernel
theorem dX9_number_9 : decode cX9_number 9 = .ok (.aload_n 0, 1) := by decide +kernel
theorem dX9_number_10 : decode cX9_number 10 = .ok (.getfield 76, 3) := by decide +kernel
theorem dX9_number_13 : decode cX9_number 13 = .ok (.iastore, 1) := by decide +kernel
theorem dX9_number_14 : decode cX9_number 14 = .ok (.aload_n 0, 1) := by decide +kernel
theorem dX9_number_15 : decode cX9_number 15 = .ok (.getfield 73, 3) := by decide +kernel
theorem dX9_number_18 : decode cX9_number 18 = .ok (.iconst 2, 1) := by decide +kernel
theorem dX9_number_19 : decode cX9_number 19 = .ok (.if_icmp .ne 19, 3) := by decide +kernel
theorem dX9_number_22 : decode cX9_number 22 = .ok (.aload_n 0, 1) := by decide +kernel
theorem dX9_number_23 : decode cX9_number 23 = .ok (.getfield 76, 3) := by decide +kernel
theorem dX9_number_26 : decode cX9_number 26 = .ok (.iload_n 2, 1) := by decide +kernel
theorem dX9_number_27 : decode cX9_number 27 = .ok (.iload_n 3, 1) := by decide +kernel
theorem dX9_number_28 : decode cX9_number 28 = .ok (.invokestatic 45, 3) := by decide +kernel
theorem dX9_number_31 : decode cX9_number 31 = .ok (.ifCond .eq 7, 3) := by decide +kernel
theorem dX9_number_34 : decode cX9_number 34 = .ok (.iconst 1, 1) := by decide +kernel
theorem dX9_number_35 : decode cX9_number 35 = .ok (.goto 4, 3) := by decide +kernel
theorem dX9_number_38 : decode cX9_number 38 = .ok (.iconst 0, 1) := by decide +kernel
theorem dX9_number_39 : decode cX9_number 39 = .ok (.ireturn, 1) := by decide +kernel
theorem dX9_readsItem_0 : decode cX9_readsItem 0 = .ok (.aload_n 0, 1) := by decide +kernel
theorem dX9_readsItem_1 : decode cX9_readsItem 1 = .ok (.getfield 73, 3) := by decide +kernel
theorem dX9_readsItem_4 : decode cX9_readsItem 4 = .ok (.iconst 1, 1) := by decide +kernel
theorem dX9_readsItem_5 : decode cX9_readsItem 5 = .ok (.if_icmp .ne 13, 3) := by decide +kernel
theorem dX9_readsItem_8 : decode cX9_readsItem 8 = .ok (.aload_n 0, 1) := by decide +kernel
theorem dX9_readsItem_9 : decode cX9_readsItem 9 = .ok (.getfield 76, 3) := by decide +kernel
theorem dX9_readsItem_12 : decode cX9_readsItem 12 = .ok (.invokestatic 67, 3) := by decide +kernel
theorem dX9_readsItem_15 : decode cX9_readsItem 15 = .ok (.goto 4, 3) := by decide +kernel
theorem dX9_readsItem_18 : decode cX9_readsItem 18 = .ok (.iconst (-1), 1) := by decide +kernel
theorem dX9_readsItem_19 : decode cX9_readsItem 19 = .ok (.istore_n 1, 1) := by decide +kernel
theorem dX9_readsItem_20 : decode cX9_readsItem 20 = .ok (.iload_n 1, 1) := by decide +kernel
theorem dX9_readsItem_21 : decode cX9_readsItem 21 = .ok (.ifCond .ge 5, 3) := by decide +kernel
theorem dX9_readsItem_24 : decode cX9_readsItem 24 = .ok (.iconst 0, 1) := by decide +kernel
theorem dX9_readsItem_25 : decode cX9_readsItem 25 = .ok (.ireturn, 1) := by decide +kernel
theorem dX9_readsItem_26 : decode cX9_readsItem 26 = .ok (.iload_n 1, 1) := by decide +kernel
theorem dX9_readsItem_27 : decode cX9_readsItem 27 = .ok (.iconst 5, 1) := by decide +kernel
theorem dX9_readsItem_28 : decode cX9_readsItem 28 = .ok (.if_icmp .ne 72, 3) := by decide +kernel
theorem dX9_readsItem_31 : decode cX9_readsItem 31 = .ok (.aload_n 0, 1) := by decide +kernel
theorem dX9_readsItem_32 : decode cX9_readsItem 32 = .ok (.getfield 16, 3) := by decide +kernel
theorem dX9_readsItem_35 : decode cX9_readsItem 35 = .ok (.iconst 5, 1) := by decide +kernel
theorem dX9_readsItem_36 : decode cX9_readsItem 36 = .ok (.iaload, 1) := by decide +kernel
theorem dX9_readsItem_37 : decode cX9_readsItem 37 = .ok (.istore_n 2, 1) := by decide +kernel
theorem dX9_readsItem_38 : decode cX9_readsItem 38 = .ok (.iload_n 2, 1) := by decide +kernel
theorem dX9_readsItem_39 : decode cX9_readsItem 39 = .ok (.bipush 8, 2) := by decide +kernel
theorem dX9_readsItem_41 : decode cX9_readsItem 41 = .ok (.if_icmp .eq 45, 3) := by decide +kernel
theorem dX9_readsItem_44 : decode cX9_readsItem 44 = .ok (.aload_n 0, 1) := by decide +kernel
theorem dX9_readsItem_45 : decode cX9_readsItem 45 = .ok (.bipush 8, 2) := by decide +kernel
theorem dX9_readsItem_47 : decode cX9_readsItem 47 = .ok (.iload_n 2, 1) := by decide +kernel
theorem dX9_readsItem_48 : decode cX9_readsItem 48 = .ok (.iadd, 1) := by decide +kernel
theorem dX9_readsItem_49 : decode cX9_readsItem 49 = .ok (.iconst 1, 1) := by decide +kernel
theorem dX9_readsItem_50 : decode cX9_readsItem 50 = .ok (.bipush 64, 2) := by decide +kernel
theorem dX9_readsItem_52 : decode cX9_readsItem 52 = .ok (.invokevirtual 82, 3) := by decide +kernel
theorem dX9_readsItem_55 : decode cX9_readsItem 55 = .ok (.ifCond .eq 31, 3) := by decide +kernel
theorem dX9_readsItem_58 : decode cX9_readsItem 58 = .ok (.aload_n 0, 1) := by decide +kernel
theorem dX9_readsItem_59 : decode cX9_readsItem 59 = .ok (.bipush 16, 2) := by decide +kernel
theorem dX9_readsItem_61 : decode cX9_readsItem 61 = .ok (.iload_n 2, 1) := by decide +kernel
theorem dX9_readsItem_62 : decode cX9_readsItem 62 = .ok (.iadd, 1) := by decide +kernel
theorem dX9_readsItem_63 : decode cX9_readsItem 63 = .ok (.iconst 1, 1) := by decide +kernel
theorem dX9_readsItem_64 : decode cX9_readsItem 64 = .ok (.bipush 40, 2) := by decide +kernel
theorem dX9_readsItem_66 : decode cX9_readsItem 66 = .ok (.invokevirtual 82, 3) := by decide +kernel
theorem dX9_readsItem_69 : decode cX9_readsItem 69 = .ok (.ifCond .eq 17, 3) := by decide +kernel
theorem dX9_readsItem_72 : decode cX9_readsItem 72 = .ok (.aload_n 0, 1) := by decide +kernel
theorem dX9_readsItem_73 : decode cX9_readsItem 73 = .ok (.bipush 24, 2) := by decide +kernel
theorem dX9_readsItem_75 : decode cX9_readsItem 75 = .ok (.iload_n 2, 1) := by decide +kernel
theorem dX9_readsItem_76 : decode cX9_readsItem 76 = .ok (.iadd, 1) := by decide +kernel
theorem dX9_readsItem_77 : decode cX9_readsItem 77 = .ok (.iconst 1, 1) := by decide +kernel
theorem dX9_readsItem_78 : decode cX9_readsItem 78 = .ok (.bipush 40, 2) := by decide +kernel
theorem dX9_readsItem_80 : decode cX9_readsItem 80 = .ok (.invokevirtual 82, 3) := by decide +kernel
theorem dX9_readsItem_83 : decode cX9_readsItem 83 = .ok (.ifCond .ne 5, 3) := by decide +kernel
theorem dX9_readsItem_86 : decode cX9_readsItem 86 = .ok (.iconst 0, 1) := by decide +kernel
theorem dX9_readsItem_87 : decode cX9_readsItem 87 = .ok (.ireturn, 1) := by decide +kernel
theorem dX9_readsItem_88 : decode cX9_readsItem 88 = .ok (.aload_n 0, 1) := by decide +kernel
theorem dX9_readsItem_89 : decode cX9_readsItem 89 = .ok (.getfield 16, 3) := by decide +kernel
theorem dX9_readsItem_92 : decode cX9_readsItem 92 = .ok (.iconst 5, 1) := by decide +kernel
theorem dX9_readsItem_93 : decode cX9_readsItem 93 = .ok (.dup2, 1) := by decide +kernel
theorem dX9_readsItem_94 : decode cX9_readsItem 94 = .ok (.iaload, 1) := by decide +kernel
end
section
theorem dX9_readsItem_95 : decode cX9_readsItem 95 = .ok (.iconst 1, 1) := by decide +kernel
theorem dX9_readsItem_96 : decode cX9_readsItem 96 = .ok (.iadd, 1) := by decide +kernel
theorem dX9_readsItem_97 : decode cX9_readsItem 97 = .ok (.iastore, 1) := by decide +kernel
theorem dX9_readsItem_98 : decode cX9_readsItem 98 = .ok (.iconst 1, 1) := by decide +kernel
theorem dX9_readsItem_99 : decode cX9_readsItem 99 = .ok (.ireturn, 1) := by decide +kernel
theorem dX9_readsItem_100 : decode cX9_readsItem 100 = .ok (.aload_n 0, 1) := by decide +kernel
theorem dX9_readsItem_101 : decode cX9_readsItem 101 = .ok (.getfield 16, 3) := by decide +kernel
theorem dX9_readsItem_104 : decode cX9_readsItem 104 = .ok (.bipush 7, 2) := by decide +kernel
theorem dX9_readsItem_106 : decode cX9_readsItem 106 = .ok (.iaload, 1) := by decide +kernel
theorem dX9_readsItem_107 : decode cX9_readsItem 107 = .ok (.iload_n 1, 1) := by decide +kernel
theorem dX9_readsItem_108 : decode cX9_readsItem 108 = .ok (.ishr, 1) := by decide +kernel
theorem dX9_readsItem_109 : decode cX9_readsItem 109 = .ok (.iconst 1, 1) := by decide +kernel
theorem dX9_readsItem_110 : decode cX9_readsItem 110 = .ok (.iand, 1) := by decide +kernel
theorem dX9_readsItem_111 : decode cX9_readsItem 111 = .ok (.iconst 1, 1) := by decide +kernel
theorem dX9_readsItem_112 : decode cX9_readsItem 112 = .ok (.if_icmp .ne 5, 3) := by decide +kernel
theorem dX9_readsItem_115 : decode cX9_readsItem 115 = .ok (.iconst 0, 1) := by decide +kernel
theorem dX9_readsItem_116 : decode cX9_readsItem 116 = .ok (.ireturn, 1) := by decide +kernel
theorem dX9_readsItem_117 : decode cX9_readsItem 117 = .ok (.aload_n 0, 1) := by decide +kernel
theorem dX9_readsItem_118 : decode cX9_readsItem 118 = .ok (.getfield 16, 3) := by decide +kernel
theorem dX9_readsItem_121 : decode cX9_readsItem 121 = .ok (.bipush 7, 2) := by decide +kernel
theorem dX9_readsItem_123 : decode cX9_readsItem 123 = .ok (.dup2, 1) := by decide +kernel
theorem dX9_readsItem_124 : decode cX9_readsItem 124 = .ok (.iaload, 1) := by decide +kernel
theorem dX9_readsItem_125 : decode cX9_readsItem 125 = .ok (.iconst 1, 1) := by decide +kernel
theorem dX9_readsItem_126 : decode cX9_readsItem 126 = .ok (.iload_n 1, 1) := by decide +kernel
theorem dX9_readsItem_127 : decode cX9_readsItem 127 = .ok (.ishl, 1) := by decide +kernel
theorem dX9_readsItem_128 : decode cX9_readsItem 128 = .ok (.ior, 1) := by decide +kernel
theorem dX9_readsItem_129 : decode cX9_readsItem 129 = .ok (.iastore, 1) := by decide +kernel
theorem dX9_readsItem_130 : decode cX9_readsItem 130 = .ok (.iload_n 1, 1) := by decide +kernel
theorem dX9_readsItem_131 : decode cX9_readsItem 131 = .ok (.iconst 1, 1) := by decide +kernel
theorem dX9_readsItem_132 : decode cX9_readsItem 132 = .ok (.if_icmp .eq 8, 3) := by decide +kernel
theorem dX9_readsItem_135 : decode cX9_readsItem 135 = .ok (.iload_n 1, 1) := by decide +kernel
theorem dX9_readsItem_136 : decode cX9_readsItem 136 = .ok (.iconst 4, 1) := by decide +kernel
theorem dX9_readsItem_137 : decode cX9_readsItem 137 = .ok (.if_icmp .ne 7, 3) := by decide +kernel
theorem dX9_readsItem_140 : decode cX9_readsItem 140 = .ok (.iconst 1, 1) := by decide +kernel
theorem dX9_readsItem_141 : decode cX9_readsItem 141 = .ok (.goto 4, 3) := by decide +kernel
theorem dX9_readsItem_144 : decode cX9_readsItem 144 = .ok (.iconst 0, 1) := by decide +kernel
theorem dX9_readsItem_145 : decode cX9_readsItem 145 = .ok (.istore_n 2, 1) := by decide +kernel
theorem dX9_readsItem_146 : decode cX9_readsItem 146 = .ok (.iload_n 1, 1) := by decide +kernel
theorem dX9_readsItem_147 : decode cX9_readsItem 147 = .ok (.iconst 1, 1) := by decide +kernel
theorem dX9_readsItem_148 : decode cX9_readsItem 148 = .ok (.if_icmp .eq 8, 3) := by decide +kernel
theorem dX9_readsItem_151 : decode cX9_readsItem 151 = .ok (.iload_n 1, 1) := by decide +kernel
theorem dX9_readsItem_152 : decode cX9_readsItem 152 = .ok (.iconst 2, 1) := by decide +kernel
theorem dX9_readsItem_153 : decode cX9_readsItem 153 = .ok (.if_icmp .ne 8, 3) := by decide +kernel
theorem dX9_readsItem_156 : decode cX9_readsItem 156 = .ok (.bipush 20, 2) := by decide +kernel
theorem dX9_readsItem_158 : decode cX9_readsItem 158 = .ok (.goto 15, 3) := by decide +kernel
theorem dX9_readsItem_161 : decode cX9_readsItem 161 = .ok (.iload_n 1, 1) := by decide +kernel
theorem dX9_readsItem_162 : decode cX9_readsItem 162 = .ok (.iconst 4, 1) := by decide +kernel
theorem dX9_readsItem_163 : decode cX9_readsItem 163 = .ok (.if_icmp .ne 8, 3) := by decide +kernel
theorem dX9_readsItem_166 : decode cX9_readsItem 166 = .ok (.bipush 8, 2) := by decide +kernel
theorem dX9_readsItem_168 : decode cX9_readsItem 168 = .ok (.goto 5, 3) := by decide +kernel
theorem dX9_readsItem_171 : decode cX9_readsItem 171 = .ok (.bipush 99, 2) := by decide +kernel
theorem dX9_readsItem_173 : decode cX9_readsItem 173 = .ok (.istore_n 3, 1) := by decide +kernel
theorem dX9_readsItem_174 : decode cX9_readsItem 174 = .ok (.aload_n 0, 1) := by decide +kernel
theorem dX9_readsItem_175 : decode cX9_readsItem 175 = .ok (.iload_n 1, 1) := by decide +kernel
theorem dX9_readsItem_176 : decode cX9_readsItem 176 = .ok (.iload_n 2, 1) := by decide +kernel
theorem dX9_readsItem_177 : decode cX9_readsItem 177 = .ok (.iload_n 3, 1) := by decide +kernel
theorem dX9_readsItem_178 : decode cX9_readsItem 178 = .ok (.invokevirtual 82, 3) := by decide +kernel
theorem dX9_readsItem_181 : decode cX9_readsItem 181 = .ok (.ireturn, 1) := by decide +kernel
theorem dX9_reads_0 : decode cX9_reads 0 = .ok (.iconst 0, 1) := by decide +kernel
theorem dX9_reads_1 : decode cX9_reads 1 = .ok (.istore_n 1, 1) := by decide +kernel
theorem dX9_reads_2 : decode cX9_reads 2 = .ok (.iload_n 1, 1) := by decide +kernel
theorem dX9_reads_3 : decode cX9_reads 3 = .ok (.bipush 32, 2) := by decide +kernel
theorem dX9_reads_5 : decode cX9_reads 5 = .ok (.if_icmp .ge 16, 3) := by decide +kernel
theorem dX9_reads_8 : decode cX9_reads 8 = .ok (.aload_n 0, 1) := by decide +kernel
theorem dX9_reads_9 : decode cX9_reads 9 = .ok (.getfield 16, 3) := by decide +kernel
theorem dX9_reads_12 : decode cX9_reads 12 = .ok (.iload_n 1, 1) := by decide +kernel
theorem dX9_reads_13 : decode cX9_reads 13 = .ok (.iconst 0, 1) := by decide +kernel
theorem dX9_reads_14 : decode cX9_reads 14 = .ok (.iastore, 1) := by decide +kernel
theorem dX9_reads_15 : decode cX9_reads 15 = .ok (.iinc 1 1, 3) := by decide +kernel
theorem dX9_reads_18 : decode cX9_reads 18 = .ok (.goto (-16), 3) := by decide +kernel
theorem dX9_reads_21 : decode cX9_reads 21 = .ok (.aload_n 0, 1) := by decide +kernel
theorem dX9_reads_22 : decode cX9_reads 22 = .ok (.getfield 16, 3) := by decide +kernel
theorem dX9_reads_25 : decode cX9_reads 25 = .ok (.iconst 1, 1) := by decide +kernel
theorem dX9_reads_26 : decode cX9_reads 26 = .ok (.iconst 4, 1) := by decide +kernel
theorem dX9_reads_27 : decode cX9_reads 27 = .ok (.iastore, 1) := by decide +kernel
theorem dX9_reads_28 : decode cX9_reads 28 = .ok (.aload_n 0, 1) := by decide +kernel
theorem dX9_reads_29 : decode cX9_reads 29 = .ok (.getfield 16, 3) := by decide +kernel
theorem dX9_reads_32 : decode cX9_reads 32 = .ok (.iconst 3, 1) := by decide +kernel
theorem dX9_reads_33 : decode cX9_reads 33 = .ok (.bipush 10, 2) := by decide +kernel
theorem dX9_reads_35 : decode cX9_reads 35 = .ok (.iastore, 1) := by decide +kernel
theorem dX9_reads_36 : decode cX9_reads 36 = .ok (.aload_n 0, 1) := by decide +kernel
theorem dX9_reads_37 : decode cX9_reads 37 = .ok (.getfield 16, 3) := by decide +kernel
theorem dX9_reads_40 : decode cX9_reads 40 = .ok (.iconst 4, 1) := by decide +kernel
theorem dX9_reads_41 : decode cX9_reads 41 = .ok (.bipush 8, 2) := by decide +kernel
theorem dX9_reads_43 : decode cX9_reads 43 = .ok (.iastore, 1) := by decide +kernel
theorem dX9_reads_44 : decode cX9_reads 44 = .ok (.aload_n 0, 1) := by decide +kernel
theorem dX9_reads_45 : decode cX9_reads 45 = .ok (.iconst 0, 1) := by decide +kernel
theorem dX9_reads_46 : decode cX9_reads 46 = .ok (.putfield 57, 3) := by decide +kernel
theorem dX9_reads_49 : decode cX9_reads 49 = .ok (.aload_n 0, 1) := by decide +kernel
theorem dX9_reads_50 : decode cX9_reads 50 = .ok (.invokevirtual 79, 3) := by decide +kernel
theorem dX9_reads_53 : decode cX9_reads 53 = .ok (.aload_n 0, 1) := by decide +kernel
theorem dX9_reads_54 : decode cX9_reads 54 = .ok (.getfield 73, 3) := by decide +kernel
theorem dX9_reads_57 : decode cX9_reads 57 = .ok (.ifCond .eq 44, 3) := by decide +kernel
theorem dX9_reads_60 : decode cX9_reads 60 = .ok (.aload_n 0, 1) := by decide +kernel
theorem dX9_reads_61 : decode cX9_reads 61 = .ok (.invokevirtual 85, 3) := by decide +kernel
theorem dX9_reads_64 : decode cX9_reads 64 = .ok (.ifCond .ne 5, 3) := by decide +kernel
theorem dX9_reads_67 : decode cX9_reads 67 = .ok (.iconst 0, 1) := by decide +kernel
theorem dX9_reads_68 : decode cX9_reads 68 = .ok (.ireturn, 1) := by decide +kernel
theorem dX9_reads_69 : decode cX9_reads 69 = .ok (.aload_n 0, 1) := by decide +kernel
theorem dX9_reads_70 : decode cX9_reads 70 = .ok (.invokevirtual 79, 3) := by decide +kernel
theorem dX9_reads_73 : decode cX9_reads 73 = .ok (.aload_n 0, 1) := by decide +kernel
theorem dX9_reads_74 : decode cX9_reads 74 = .ok (.getfield 73, 3) := by decide +kernel
theorem dX9_reads_77 : decode cX9_reads 77 = .ok (.iconst 3, 1) := by decide +kernel
theorem dX9_reads_78 : decode cX9_reads 78 = .ok (.if_icmp .eq 5, 3) := by decide +kernel
theorem dX9_reads_81 : decode cX9_reads 81 = .ok (.iconst 0, 1) := by decide +kernel
theorem dX9_reads_82 : decode cX9_reads 82 = .ok (.ireturn, 1) := by decide +kernel
theorem dX9_reads_83 : decode cX9_reads 83 = .ok (.aload_n 0, 1) := by decide +kernel
theorem dX9_reads_84 : decode cX9_reads 84 = .ok (.getfield 16, 3) := by decide +kernel
theorem dX9_reads_87 : decode cX9_reads 87 = .ok (.bipush 6, 2) := by decide +kernel
theorem dX9_reads_89 : decode cX9_reads 89 = .ok (.dup2, 1) := by decide +kernel
theorem dX9_reads_90 : decode cX9_reads 90 = .ok (.iaload, 1) := by decide +kernel
theorem dX9_reads_91 : decode cX9_reads 91 = .ok (.iconst 1, 1) := by decide +kernel
theorem dX9_reads_92 : decode cX9_reads 92 = .ok (.iadd, 1) := by decide +kernel
theorem dX9_reads_93 : decode cX9_reads 93 = .ok (.iastore, 1) := by decide +kernel
theorem dX9_reads_94 : decode cX9_reads 94 = .ok (.aload_n 0, 1) := by decide +kernel
theorem dX9_reads_95 : decode cX9_reads 95 = .ok (.invokevirtual 79, 3) := by decide +kernel
theorem dX9_reads_98 : decode cX9_reads 98 = .ok (.goto (-45), 3) := by decide +kernel
theorem dX9_reads_101 : decode cX9_reads 101 = .ok (.iconst 1, 1) := by decide +kernel
theorem dX9_reads_102 : decode cX9_reads 102 = .ok (.ireturn, 1) := by decide +kernel
theorem dX9_high_0 : decode cX9_high 0 = .ok (.aload_n 0, 1) := by decide +kernel
theorem dX9_high_1 : decode cX9_high 1 = .ok (.getfield 19, 3) := by decide +kernel
theorem dX9_high_4 : decode cX9_high 4 = .ok (.iconst 1, 1) := by decide +kernel
theorem dX9_high_5 : decode cX9_high 5 = .ok (.iaload, 1) := by decide +kernel
theorem dX9_high_6 : decode cX9_high 6 = .ok (.aload_n 0, 1) := by decide +kernel
theorem dX9_high_7 : decode cX9_high 7 = .ok (.getfield 13, 3) := by decide +kernel
theorem dX9_high_10 : decode cX9_high 10 = .ok (.iconst 1, 1) := by decide +kernel
theorem dX9_high_11 : decode cX9_high 11 = .ok (.iaload, 1) := by decide +kernel
theorem dX9_high_12 : decode cX9_high 12 = .ok (.idiv, 1) := by decide +kernel
theorem dX9_high_13 : decode cX9_high 13 = .ok (.ireturn, 1) := by decide +kernel
theorem dX9_begins_0 : decode cX9_begins 0 = .ok (.iconst 0, 1) := by decide +kernel
theorem dX9_begins_1 : decode cX9_begins 1 = .ok (.istore_n 1, 1) := by decide +kernel
theorem dX9_begins_2 : decode cX9_begins 2 = .ok (.iload_n 1, 1) := by decide +kernel
theorem dX9_begins_3 : decode cX9_begins 3 = .ok (.bipush 59, 2) := by decide +kernel
theorem dX9_begins_5 : decode cX9_begins 5 = .ok (.if_icmp .ge 16, 3) := by decide +kernel
theorem dX9_begins_8 : decode cX9_begins 8 = .ok (.aload_n 0, 1) := by decide +kernel
theorem dX9_begins_9 : decode cX9_begins 9 = .ok (.getfield 19, 3) := by decide +kernel
theorem dX9_begins_12 : decode cX9_begins 12 = .ok (.iload_n 1, 1) := by decide +kernel
theorem dX9_begins_13 : decode cX9_begins 13 = .ok (.iconst 0, 1) := by decide +kernel
theorem dX9_begins_14 : decode cX9_begins 14 = .ok (.iastore, 1) := by decide +kernel
theorem dX9_begins_15 : decode cX9_begins 15 = .ok (.iinc 1 1, 3) := by decide +kernel
theorem dX9_begins_18 : decode cX9_begins 18 = .ok (.goto (-16), 3) := by decide +kernel
theorem dX9_begins_21 : decode cX9_begins 21 = .ok (.aload_n 0, 1) := by decide +kernel
theorem dX9_begins_22 : decode cX9_begins 22 = .ok (.getfield 19, 3) := by decide +kernel
theorem dX9_begins_25 : decode cX9_begins 25 = .ok (.iconst 1, 1) := by decide +kernel
theorem dX9_begins_26 : decode cX9_begins 26 = .ok (.aload_n 0, 1) := by decide +kernel
theorem dX9_begins_27 : decode cX9_begins 27 = .ok (.getfield 13, 3) := by decide +kernel
theorem dX9_begins_30 : decode cX9_begins 30 = .ok (.iconst 0, 1) := by decide +kernel
theorem dX9_begins_31 : decode cX9_begins 31 = .ok (.iaload, 1) := by decide +kernel
theorem dX9_begins_32 : decode cX9_begins 32 = .ok (.iastore, 1) := by decide +kernel
theorem dX9_begins_33 : decode cX9_begins 33 = .ok (.aload_n 0, 1) := by decide +kernel
theorem dX9_begins_34 : decode cX9_begins 34 = .ok (.getfield 19, 3) := by decide +kernel
theorem dX9_begins_37 : decode cX9_begins 37 = .ok (.iconst 2, 1) := by decide +kernel
theorem dX9_begins_38 : decode cX9_begins 38 = .ok (.aload_n 0, 1) := by decide +kernel
theorem dX9_begins_39 : decode cX9_begins 39 = .ok (.invokevirtual 88, 3) := by decide +kernel
theorem dX9_begins_42 : decode cX9_begins 42 = .ok (.iastore, 1) := by decide +kernel
theorem dX9_begins_43 : decode cX9_begins 43 = .ok (.iconst 0, 1) := by decide +kernel
theorem dX9_begins_44 : decode cX9_begins 44 = .ok (.istore_n 1, 1) := by decide +kernel
theorem dX9_begins_45 : decode cX9_begins 45 = .ok (.iload_n 1, 1) := by decide +kernel
theorem dX9_begins_46 : decode cX9_begins 46 = .ok (.aload_n 0, 1) := by decide +kernel
theorem dX9_begins_47 : decode cX9_begins 47 = .ok (.getfield 13, 3) := by decide +kernel
theorem dX9_begins_50 : decode cX9_begins 50 = .ok (.iconst 5, 1) := by decide +kernel
theorem dX9_begins_51 : decode cX9_begins 51 = .ok (.iaload, 1) := by decide +kernel
theorem dX9_begins_52 : decode cX9_begins 52 = .ok (.if_icmp .ge 72, 3) := by decide +kernel
theorem dX9_begins_55 : decode cX9_begins 55 = .ok (.aload_n 0, 1) := by decide +kernel
theorem dX9_begins_56 : decode cX9_begins 56 = .ok (.getfield 19, 3) := by decide +kernel
theorem dX9_begins_59 : decode cX9_begins 59 = .ok (.iconst 3, 1) := by decide +kernel
theorem dX9_begins_60 : decode cX9_begins 60 = .ok (.iload_n 1, 1) := by decide +kernel
theorem dX9_begins_61 : decode cX9_begins 61 = .ok (.iadd, 1) := by decide +kernel
theorem dX9_begins_62 : decode cX9_begins 62 = .ok (.aload_n 0, 1) := by decide +kernel
theorem dX9_begins_63 : decode cX9_begins 63 = .ok (.getfield 13, 3) := by decide +kernel
theorem dX9_begins_66 : decode cX9_begins 66 = .ok (.bipush 8, 2) := by decide +kernel
theorem dX9_begins_68 : decode cX9_begins 68 = .ok (.iload_n 1, 1) := by decide +kernel
theorem dX9_begins_69 : decode cX9_begins 69 = .ok (.iadd, 1) := by decide +kernel
theorem dX9_begins_70 : decode cX9_begins 70 = .ok (.iaload, 1) := by decide +kernel
theorem dX9_begins_71 : decode cX9_begins 71 = .ok (.iastore, 1) := by decide +kernel
theorem dX9_begins_72 : decode cX9_begins 72 = .ok (.aload_n 0, 1) := by decide +kernel
theorem dX9_begins_73 : decode cX9_begins 73 = .ok (.getfield 19, 3) := by decide +kernel
theorem dX9_begins_76 : decode cX9_begins 76 = .ok (.bipush 11, 2) := by decide +kernel
theorem dX9_begins_78 : decode cX9_begins 78 = .ok (.iload_n 1, 1) := by decide +kernel
theorem dX9_begins_79 : decode cX9_begins 79 = .ok (.iadd, 1) := by decide +kernel
theorem dX9_begins_80 : decode cX9_begins 80 = .ok (.aload_n 0, 1) := by decide +kernel
theorem dX9_begins_81 : decode cX9_begins 81 = .ok (.getfield 13, 3) := by decide +kernel
theorem dX9_begins_84 : decode cX9_begins 84 = .ok (.bipush 16, 2) := by decide +kernel
theorem dX9_begins_86 : decode cX9_begins 86 = .ok (.iload_n 1, 1) := by decide +kernel
theorem dX9_begins_87 : decode cX9_begins 87 = .ok (.iadd, 1) := by decide +kernel
theorem dX9_begins_88 : decode cX9_begins 88 = .ok (.iaload, 1) := by decide +kernel
theorem dX9_begins_89 : decode cX9_begins 89 = .ok (.iastore, 1) := by decide +kernel
theorem dX9_begins_90 : decode cX9_begins 90 = .ok (.aload_n 0, 1) := by decide +kernel
theorem dX9_begins_91 : decode cX9_begins 91 = .ok (.getfield 19, 3) := by decide +kernel
theorem dX9_begins_94 : decode cX9_begins 94 = .ok (.bipush 19, 2) := by decide +kernel
theorem dX9_begins_96 : decode cX9_begins 96 = .ok (.iload_n 1, 1) := by decide +kernel
theorem dX9_begins_97 : decode cX9_begins 97 = .ok (.iadd, 1) := by decide +kernel
theorem dX9_begins_98 : decode cX9_begins 98 = .ok (.aload_n 0, 1) := by decide +kernel
theorem dX9_begins_99 : decode cX9_begins 99 = .ok (.getfield 13, 3) := by decide +kernel
theorem dX9_begins_102 : decode cX9_begins 102 = .ok (.bipush 24, 2) := by decide +kernel
theorem dX9_begins_104 : decode cX9_begins 104 = .ok (.iload_n 1, 1) := by decide +kernel
theorem dX9_begins_105 : decode cX9_begins 105 = .ok (.iadd, 1) := by decide +kernel
theorem dX9_begins_106 : decode cX9_begins 106 = .ok (.iaload, 1) := by decide +kernel
theorem dX9_begins_107 : decode cX9_begins 107 = .ok (.iastore, 1) := by decide +kernel
theorem dX9_begins_108 : decode cX9_begins 108 = .ok (.aload_n 0, 1) := by decide +kernel
theorem dX9_begins_109 : decode cX9_begins 109 = .ok (.getfield 19, 3) := by decide +kernel
theorem dX9_begins_112 : decode cX9_begins 112 = .ok (.bipush 51, 2) := by decide +kernel
theorem dX9_begins_114 : decode cX9_begins 114 = .ok (.iload_n 1, 1) := by decide +kernel
theorem dX9_begins_115 : decode cX9_begins 115 = .ok (.iadd, 1) := by decide +kernel
theorem dX9_begins_116 : decode cX9_begins 116 = .ok (.iconst 1, 1) := by decide +kernel
theorem dX9_begins_117 : decode cX9_begins 117 = .ok (.iastore, 1) := by decide +kernel
theorem dX9_begins_118 : decode cX9_begins 118 = .ok (.iinc 1 1, 3) := by decide +kernel
theorem dX9_begins_121 : decode cX9_begins 121 = .ok (.goto (-76), 3) := by decide +kernel
theorem dX9_begins_124 : decode cX9_begins 124 = .ok (.return_, 1) := by decide +kernel
theorem dX9_tells_0 : decode cX9_tells 0 = .ok (.iconst 0, 1) := by decide +kernel
theorem dX9_tells_1 : decode cX9_tells 1 = .ok (.istore_n 1, 1) := by decide +kernel
theorem dX9_tells_2 : decode cX9_tells 2 = .ok (.iload_n 1, 1) := by decide +kernel
theorem dX9_tells_3 : decode cX9_tells 3 = .ok (.bipush 32, 2) := by decide +kernel
theorem dX9_tells_5 : decode cX9_tells 5 = .ok (.if_icmp .ge 21, 3) := by decide +kernel
theorem dX9_tells_8 : decode cX9_tells 8 = .ok (.aload_n 0, 1) := by decide +kernel
theorem dX9_tells_9 : decode cX9_tells 9 = .ok (.getfield 13, 3) := by decide +kernel
theorem dX9_tells_12 : decode cX9_tells 12 = .ok (.iload_n 1, 1) := by decide +kernel
theorem dX9_tells_13 : decode cX9_tells 13 = .ok (.aload_n 0, 1) := by decide +kernel
theorem dX9_tells_14 : decode cX9_tells 14 = .ok (.getfield 16, 3) := by decide +kernel
theorem dX9_tells_17 : decode cX9_tells 17 = .ok (.iload_n 1, 1) := by decide +kernel
theorem dX9_tells_18 : decode cX9_tells 18 = .ok (.iaload, 1) := by decide +kernel
theorem dX9_tells_19 : decode cX9_tells 19 = .ok (.iastore, 1) := by decide +kernel
theorem dX9_tells_20 : decode cX9_tells 20 = .ok (.iinc 1 1, 3) := by decide +kernel
theorem dX9_tells_23 : decode cX9_tells 23 = .ok (.goto (-21), 3) := by decide +kernel
theorem dX9_tells_26 : decode cX9_tells 26 = .ok (.aload_n 0, 1) := by decide +kernel
theorem dX9_tells_27 : decode cX9_tells 27 = .ok (.invokevirtual 92, 3) := by decide +kernel
theorem dX9_tells_30 : decode cX9_tells 30 = .ok (.aload_n 0, 1) := by decide +kernel
theorem dX9_tells_31 : decode cX9_tells 31 = .ok (.iconst 0, 1) := by decide +kernel
theorem dX9_tells_32 : decode cX9_tells 32 = .ok (.putfield 95, 3) := by decide +kernel
theorem dX9_tells_35 : decode cX9_tells 35 = .ok (.aload_n 0, 1) := by decide +kernel
theorem dX9_tells_36 : decode cX9_tells 36 = .ok (.iconst 0, 1) := by decide +kernel
theorem dX9_tells_37 : decode cX9_tells 37 = .ok (.putfield 98, 3) := by decide +kernel
theorem dX9_tells_40 : decode cX9_tells 40 = .ok (.aload_n 0, 1) := by decide +kernel
theorem dX9_tells_41 : decode cX9_tells 41 = .ok (.getfield 28, 3) := by decide +kernel
theorem dX9_tells_44 : decode cX9_tells 44 = .ok (.iconst 0, 1) := by decide +kernel
theorem dX9_tells_45 : decode cX9_tells 45 = .ok (.iconst 0, 1) := by decide +kernel
theorem dX9_tells_46 : decode cX9_tells 46 = .ok (.bastore, 1) := by decide +kernel
theorem dX9_tells_47 : decode cX9_tells 47 = .ok (.aload_n 0, 1) := by decide +kernel
theorem dX9_tells_48 : decode cX9_tells 48 = .ok (.getfield 28, 3) := by decide +kernel
theorem dX9_tells_51 : decode cX9_tells 51 = .ok (.iconst 1, 1) := by decide +kernel
theorem dX9_tells_52 : decode cX9_tells 52 = .ok (.iconst 0, 1) := by decide +kernel
theorem dX9_tells_53 : decode cX9_tells 53 = .ok (.bastore, 1) := by decide +kernel
theorem dX9_tells_54 : decode cX9_tells 54 = .ok (.return_, 1) := by decide +kernel
theorem dX9_cellar_0 : decode cX9_cellar 0 = .ok (.aload_n 0, 1) := by decide +kernel
theorem dX9_cellar_1 : decode cX9_cellar 1 = .ok (.invokevirtual 38, 3) := by decide +kernel
theorem dX9_cellar_4 : decode cX9_cellar 4 = .ok (.ifCond .ne 11, 3) := by decide +kernel
theorem dX9_cellar_7 : decode cX9_cellar 7 = .ok (.bipush (-10), 2) := by decide +kernel
theorem dX9_cellar_9 : decode cX9_cellar 9 = .ok (.aload_n 0, 1) := by decide +kernel
theorem dX9_cellar_10 : decode cX9_cellar 10 = .ok (.getfield 64, 3) := by decide +kernel
theorem dX9_cellar_13 : decode cX9_cellar 13 = .ok (.isub, 1) := by decide +kernel
theorem dX9_cellar_14 : decode cX9_cellar 14 = .ok (.ireturn, 1) := by decide +kernel
theorem dX9_cellar_15 : decode cX9_cellar 15 = .ok (.aload_n 0, 1) := by decide +kernel
theorem dX9_cellar_16 : decode cX9_cellar 16 = .ok (.invokevirtual 42, 3) := by decide +kernel
theorem dX9_cellar_19 : decode cX9_cellar 19 = .ok (.aload_n 0, 1) := by decide +kernel
theorem dX9_cellar_20 : decode cX9_cellar 20 = .ok (.iconst 0, 1) := by decide +kernel
theorem dX9_cellar_21 : decode cX9_cellar 21 = .ok (.putfield 53, 3) := by decide +kernel
theorem dX9_cellar_24 : decode cX9_cellar 24 = .ok (.aload_n 0, 1) := by decide +kernel
theorem dX9_cellar_25 : decode cX9_cellar 25 = .ok (.getfield 13, 3) := by decide +kernel
theorem dX9_cellar_28 : decode cX9_cellar 28 = .ok (.bipush 6, 2) := by decide +kernel
theorem dX9_cellar_30 : decode cX9_cellar 30 = .ok (.iaload, 1) := by decide +kernel
theorem dX9_cellar_31 : decode cX9_cellar 31 = .ok (.ireturn, 1) := by decide +kernel
theorem dX9_broom_0 : decode cX9_broom 0 = .ok (.iload_n 1, 1) := by decide +kernel
theorem dX9_broom_1 : decode cX9_broom 1 = .ok (.invokestatic 49, 3) := by decide +kernel
theorem dX9_broom_4 : decode cX9_broom 4 = .ok (.ifCond .eq 29, 3) := by decide +kernel
theorem dX9_broom_7 : decode cX9_broom 7 = .ok (.iload_n 2, 1) := by decide +kernel
theorem dX9_broom_8 : decode cX9_broom 8 = .ok (.iconst 0, 1) := by decide +kernel
theorem dX9_broom_9 : decode cX9_broom 9 = .ok (.bipush 6, 2) := by decide +kernel
theorem dX9_broom_11 : decode cX9_broom 11 = .ok (.invokestatic 45, 3) := by decide +kernel
theorem dX9_broom_14 : decode cX9_broom 14 = .ok (.ifCond .eq 19, 3) := by decide +kernel
theorem dX9_broom_17 : decode cX9_broom 17 = .ok (.aload_n 0, 1) := by decide +kernel
theorem dX9_broom_18 : decode cX9_broom 18 = .ok (.getfield 19, 3) := by decide +kernel
theorem dX9_broom_21 : decode cX9_broom 21 = .ok (.iconst 3, 1) := by decide +kernel
theorem dX9_broom_22 : decode cX9_broom 22 = .ok (.bipush 8, 2) := by decide +kernel
theorem dX9_broom_24 : decode cX9_broom 24 = .ok (.iload_n 2, 1) := by decide +kernel
theorem dX9_broom_25 : decode cX9_broom 25 = .ok (.imul, 1) := by decide +kernel
theorem dX9_broom_26 : decode cX9_broom 26 = .ok (.iadd, 1) := by decide +kernel
theorem dX9_broom_27 : decode cX9_broom 27 = .ok (.iload_n 1, 1) := by decide +kernel
theorem dX9_broom_28 : decode cX9_broom 28 = .ok (.iadd, 1) := by decide +kernel
theorem dX9_broom_29 : decode cX9_broom 29 = .ok (.iaload, 1) := by decide +kernel
theorem dX9_broom_30 : decode cX9_broom 30 = .ok (.goto 4, 3) := by decide +kernel
theorem dX9_broom_33 : decode cX9_broom 33 = .ok (.iconst (-1), 1) := by decide +kernel
theorem dX9_broom_34 : decode cX9_broom 34 = .ok (.ireturn, 1) := by decide +kernel
theorem dX9_there_0 : decode cX9_there 0 = .ok (.iconst 0, 1) := by decide +kernel
theorem dX9_there_1 : decode cX9_there 1 = .ok (.istore_n 1, 1) := by decide +kernel
theorem dX9_there_2 : decode cX9_there 2 = .ok (.iconst 0, 1) := by decide +kernel
theorem dX9_there_3 : decode cX9_there 3 = .ok (.istore_n 2, 1) := by decide +kernel
theorem dX9_there_4 : decode cX9_there 4 = .ok (.iload_n 2, 1) := by decide +kernel
theorem dX9_there_5 : decode cX9_there 5 = .ok (.bipush 8, 2) := by decide +kernel
theorem dX9_there_7 : decode cX9_there 7 = .ok (.if_icmp .ge 23, 3) := by decide +kernel
theorem dX9_there_10 : decode cX9_there 10 = .ok (.iload_n 1, 1) := by decide +kernel
theorem dX9_there_11 : decode cX9_there 11 = .ok (.aload_n 0, 1) := by decide +kernel
theorem dX9_there_12 : decode cX9_there 12 = .ok (.getfield 19, 3) := by decide +kernel
theorem dX9_there_15 : decode cX9_there 15 = .ok (.bipush 51, 2) := by decide +kernel
theorem dX9_there_17 : decode cX9_there 17 = .ok (.iload_n 2, 1) := by decide +kernel
theorem dX9_there_18 : decode cX9_there 18 = .ok (.iadd, 1) := by decide +kernel
theorem dX9_there_19 : decode cX9_there 19 = .ok (.iaload, 1) := by decide +kernel
theorem dX9_there_20 : decode cX9_there 20 = .ok (.iload_n 2, 1) := by decide +kernel
theorem dX9_there_21 : decode cX9_there 21 = .ok (.ishl, 1) := by decide +kernel
theorem dX9_there_22 : decode cX9_there 22 = .ok (.ior, 1) := by decide +kernel
theorem dX9_there_23 : decode cX9_there 23 = .ok (.istore_n 1, 1) := by decide +kernel
theorem dX9_there_24 : decode cX9_there 24 = .ok (.iinc 2 1, 3) := by decide +kernel
theorem dX9_there_27 : decode cX9_there 27 = .ok (.goto (-23), 3) := by decide +kernel
theorem dX9_there_30 : decode cX9_there 30 = .ok (.iload_n 1, 1) := by decide +kernel
theorem dX9_there_31 : decode cX9_there 31 = .ok (.ireturn, 1) := by decide +kernel
theorem dX9_now_0 : decode cX9_now 0 = .ok (.iload_n 1, 1) := by decide +kernel
theorem dX9_now_1 : decode cX9_now 1 = .ok (.iconst 0, 1) := by decide +kernel
theorem dX9_now_2 : decode cX9_now 2 = .ok (.iconst 5, 1) := by decide +kernel
theorem dX9_now_3 : decode cX9_now 3 = .ok (.invokestatic 45, 3) := by decide +kernel
theorem dX9_now_6 : decode cX9_now 6 = .ok (.ifCond .ne 5, 3) := by decide +kernel
theorem dX9_now_9 : decode cX9_now 9 = .ok (.iconst (-1), 1) := by decide +kernel
theorem dX9_now_10 : decode cX9_now 10 = .ok (.ireturn, 1) := by decide +kernel
theorem dX9_now_11 : decode cX9_now 11 = .ok (.iload_n 1, 1) := by decide +kernel
theorem dX9_now_12 : decode cX9_now 12 = .ok (.iconst 2, 1) := by decide +kernel
theorem dX9_now_13 : decode cX9_now 13 = .ok (.if_icmp .ge 12, 3) := by decide +kernel
theorem dX9_now_16 : decode cX9_now 16 = .ok (.aload_n 0, 1) := by decide +kernel
theorem dX9_now_17 : decode cX9_now 17 = .ok (.getfield 19, 3) := by decide +kernel
theorem dX9_now_20 : decode cX9_now 20 = .ok (.iload_n 1, 1) := by decide +kernel
theorem dX9_now_21 : decode cX9_now 21 = .ok (.iaload, 1) := by decide +kernel
theorem dX9_now_22 : decode cX9_now 22 = .ok (.goto 45, 3) := by decide +kernel
theorem dX9_now_25 : decode cX9_now 25 = .ok (.iload_n 1, 1) := by decide +kernel
theorem dX9_now_26 : decode cX9_now 26 = .ok (.iconst 2, 1) := by decide +kernel
theorem dX9_now_27 : decode cX9_now 27 = .ok (.if_icmp .ne 10, 3) := by decide +kernel
theorem dX9_now_30 : decode cX9_now 30 = .ok (.aload_n 0, 1) := by decide +kernel
theorem dX9_now_31 : decode cX9_now 31 = .ok (.invokevirtual 88, 3) := by decide +kernel
theorem dX9_now_34 : decode cX9_now 34 = .ok (.goto 33, 3) := by decide +kernel
theorem dX9_now_37 : decode cX9_now 37 = .ok (.iload_n 1, 1) := by decide +kernel
theorem dX9_now_38 : decode cX9_now 38 = .ok (.iconst 3, 1) := by decide +kernel
theorem dX9_now_39 : decode cX9_now 39 = .ok (.if_icmp .ne 12, 3) := by decide +kernel
theorem dX9_now_42 : decode cX9_now 42 = .ok (.aload_n 0, 1) := by decide +kernel
theorem dX9_now_43 : decode cX9_now 43 = .ok (.getfield 19, 3) := by decide +kernel
theorem dX9_now_46 : decode cX9_now 46 = .ok (.iconst 2, 1) := by decide +kernel
theorem dX9_now_47 : decode cX9_now 47 = .ok (.iaload, 1) := by decide +kernel
theorem dX9_now_48 : decode cX9_now 48 = .ok (.goto 19, 3) := by decide +kernel
theorem dX9_now_51 : decode cX9_now 51 = .ok (.iload_n 1, 1) := by decide +kernel
theorem dX9_now_52 : decode cX9_now 52 = .ok (.iconst 4, 1) := by decide +kernel
theorem dX9_now_53 : decode cX9_now 53 = .ok (.if_icmp .ne 10, 3) := by decide +kernel
theorem dX9_now_56 : decode cX9_now 56 = .ok (.aload_n 0, 1) := by decide +kernel
theorem dX9_now_57 : decode cX9_now 57 = .ok (.invokevirtual 101, 3) := by decide +kernel
theorem dX9_now_60 : decode cX9_now 60 = .ok (.goto 7, 3) := by decide +kernel
theorem dX9_now_63 : decode cX9_now 63 = .ok (.aload_n 0, 1) := by decide +kernel
theorem dX9_now_64 : decode cX9_now 64 = .ok (.getfield 95, 3) := by decide +kernel
theorem dX9_now_67 : decode cX9_now 67 = .ok (.ireturn, 1) := by decide +kernel
theorem dX9_keeps_0 : decode cX9_keeps 0 = .ok (.aload_n 0, 1) := by decide +kernel
theorem dX9_keeps_1 : decode cX9_keeps 1 = .ok (.getfield 95, 3) := by decide +kernel
theorem dX9_keeps_4 : decode cX9_keeps 4 = .ok (.bipush 8, 2) := by decide +kernel
theorem dX9_keeps_6 : decode cX9_keeps 6 = .ok (.if_icmp .ne 43, 3) := by decide +kernel
theorem dX9_keeps_9 : decode cX9_keeps 9 = .ok (.iconst 0, 1) := by decide +kernel
theorem dX9_keeps_10 : decode cX9_keeps 10 = .ok (.istore_n 1, 1) := by decide +kernel
theorem dX9_keeps_11 : decode cX9_keeps 11 = .ok (.iload_n 1, 1) := by decide +kernel
theorem dX9_keeps_12 : decode cX9_keeps 12 = .ok (.sipush 413, 3) := by decide +kernel
theorem dX9_keeps_15 : decode cX9_keeps 15 = .ok (.if_icmp .ge 24, 3) := by decide +kernel
theorem dX9_keeps_18 : decode cX9_keeps 18 = .ok (.aload_n 0, 1) := by decide +kernel
theorem dX9_keeps_19 : decode cX9_keeps 19 = .ok (.getfield 22, 3) := by decide +kernel
theorem dX9_keeps_22 : decode cX9_keeps 22 = .ok (.iload_n 1, 1) := by decide +kernel
theorem dX9_keeps_23 : decode cX9_keeps 23 = .ok (.aload_n 0, 1) := by decide +kernel
theorem dX9_keeps_24 : decode cX9_keeps 24 = .ok (.getfield 22, 3) := by decide +kernel
theorem dX9_keeps_27 : decode cX9_keeps 27 = .ok (.iload_n 1, 1) := by decide +kernel
theorem dX9_keeps_28 : decode cX9_keeps 28 = .ok (.bipush 59, 2) := by decide +kernel
theorem dX9_keeps_30 : decode cX9_keeps 30 = .ok (.iadd, 1) := by decide +kernel
theorem dX9_keeps_31 : decode cX9_keeps 31 = .ok (.iaload, 1) := by decide +kernel
theorem dX9_keeps_32 : decode cX9_keeps 32 = .ok (.iastore, 1) := by decide +kernel
theorem dX9_keeps_33 : decode cX9_keeps 33 = .ok (.iinc 1 1, 3) := by decide +kernel
theorem dX9_keeps_36 : decode cX9_keeps 36 = .ok (.goto (-25), 3) := by decide +kernel
theorem dX9_keeps_39 : decode cX9_keeps 39 = .ok (.aload_n 0, 1) := by decide +kernel
theorem dX9_keeps_40 : decode cX9_keeps 40 = .ok (.dup, 1) := by decide +kernel
theorem dX9_keeps_41 : decode cX9_keeps 41 = .ok (.getfield 95, 3) := by decide +kernel
theorem dX9_keeps_44 : decode cX9_keeps 44 = .ok (.iconst 1, 1) := by decide +kernel
theorem dX9_keeps_45 : decode cX9_keeps 45 = .ok (.isub, 1) := by decide +kernel
theorem dX9_keeps_46 : decode cX9_keeps 46 = .ok (.putfield 95, 3) := by decide +kernel
theorem dX9_keeps_49 : decode cX9_keeps 49 = .ok (.iconst 0, 1) := by decide +kernel
theorem dX9_keeps_50 : decode cX9_keeps 50 = .ok (.istore_n 1, 1) := by decide +kernel
theorem dX9_keeps_51 : decode cX9_keeps 51 = .ok (.iload_n 1, 1) := by decide +kernel
theorem dX9_keeps_52 : decode cX9_keeps 52 = .ok (.bipush 59, 2) := by decide +kernel
theorem dX9_keeps_54 : decode cX9_keeps 54 = .ok (.if_icmp .ge 29, 3) := by decide +kernel
theorem dX9_keeps_57 : decode cX9_keeps 57 = .ok (.aload_n 0, 1) := by decide +kernel
theorem dX9_keeps_58 : decode cX9_keeps 58 = .ok (.getfield 22, 3) := by decide +kernel
theorem dX9_keeps_61 : decode cX9_keeps 61 = .ok (.bipush 59, 2) := by decide +kernel
theorem dX9_keeps_63 : decode cX9_keeps 63 = .ok (.aload_n 0, 1) := by decide +kernel
theorem dX9_keeps_64 : decode cX9_keeps 64 = .ok (.getfield 95, 3) := by decide +kernel
theorem dX9_keeps_67 : decode cX9_keeps 67 = .ok (.imul, 1) := by decide +kernel
theorem dX9_keeps_68 : decode cX9_keeps 68 = .ok (.iload_n 1, 1) := by decide +kernel
theorem dX9_keeps_69 : decode cX9_keeps 69 = .ok (.iadd, 1) := by decide +kernel
theorem dX9_keeps_70 : decode cX9_keeps 70 = .ok (.aload_n 0, 1) := by decide +kernel
theorem dX9_keeps_71 : decode cX9_keeps 71 = .ok (.getfield 19, 3) := by decide +kernel
theorem dX9_keeps_74 : decode cX9_keeps 74 = .ok (.iload_n 1, 1) := by decide +kernel
theorem dX9_keeps_75 : decode cX9_keeps 75 = .ok (.iaload, 1) := by decide +kernel
theorem dX9_keeps_76 : decode cX9_keeps 76 = .ok (.iastore, 1) := by decide +kernel
theorem dX9_keeps_77 : decode cX9_keeps 77 = .ok (.iinc 1 1, 3) := by decide +kernel
theorem dX9_keeps_80 : decode cX9_keeps 80 = .ok (.goto (-29), 3) := by decide +kernel
theorem dX9_keeps_83 : decode cX9_keeps 83 = .ok (.aload_n 0, 1) := by decide +kernel
theorem dX9_keeps_84 : decode cX9_keeps 84 = .ok (.dup, 1) := by decide +kernel
theorem dX9_keeps_85 : decode cX9_keeps 85 = .ok (.getfield 95, 3) := by decide +kernel
theorem dX9_keeps_88 : decode cX9_keeps 88 = .ok (.iconst 1, 1) := by decide +kernel
theorem dX9_keeps_89 : decode cX9_keeps 89 = .ok (.iadd, 1) := by decide +kernel
theorem dX9_keeps_90 : decode cX9_keeps 90 = .ok (.putfield 95, 3) := by decide +kernel
theorem dX9_keeps_93 : decode cX9_keeps 93 = .ok (.return_, 1) := by decide +kernel
theorem dX9_carries_0 : decode cX9_carries 0 = .ok (.aload_n 0, 1) := by decide +kernel
theorem dX9_carries_1 : decode cX9_carries 1 = .ok (.getfield 19, 3) := by decide +kernel
theorem dX9_carries_4 : decode cX9_carries 4 = .ok (.bipush 35, 2) := by decide +kernel
theorem dX9_carries_6 : decode cX9_carries 6 = .ok (.iload_n 1, 1) := by decide +kernel
theorem dX9_carries_7 : decode cX9_carries 7 = .ok (.iadd, 1) := by decide +kernel
theorem dX9_carries_8 : decode cX9_carries 8 = .ok (.iaload, 1) := by decide +kernel
theorem dX9_carries_9 : decode cX9_carries 9 = .ok (.iconst 1, 1) := by decide +kernel
theorem dX9_carries_10 : decode cX9_carries 10 = .ok (.if_icmp .ne 16, 3) := by decide +kernel
theorem dX9_carries_13 : decode cX9_carries 13 = .ok (.aload_n 0, 1) := by decide +kernel
theorem dX9_carries_14 : decode cX9_carries 14 = .ok (.getfield 19, 3) := by decide +kernel
theorem dX9_carries_17 : decode cX9_carries 17 = .ok (.iconst 3, 1) := by decide +kernel
theorem dX9_carries_18 : decode cX9_carries 18 = .ok (.iload_n 1, 1) := by decide +kernel
theorem dX9_carries_19 : decode cX9_carries 19 = .ok (.iadd, 1) := by decide +kernel
theorem dX9_carries_20 : decode cX9_carries 20 = .ok (.iaload, 1) := by decide +kernel
theorem dX9_carries_21 : decode cX9_carries 21 = .ok (.iconst 2, 1) := by decide +kernel
theorem dX9_carries_22 : decode cX9_carries 22 = .ok (.idiv, 1) := by decide +kernel
theorem dX9_carries_23 : decode cX9_carries 23 = .ok (.goto 11, 3) := by decide +kernel
theorem dX9_carries_26 : decode cX9_carries 26 = .ok (.aload_n 0, 1) := by decide +kernel
theorem dX9_carries_27 : decode cX9_carries 27 = .ok (.getfield 19, 3) := by decide +kernel
theorem dX9_carries_30 : decode cX9_carries 30 = .ok (.iconst 3, 1) := by decide +kernel
theorem dX9_carries_31 : decode cX9_carries 31 = .ok (.iload_n 1, 1) := by decide +kernel
theorem dX9_carries_32 : decode cX9_carries 32 = .ok (.iadd, 1) := by decide +kernel
theorem dX9_carries_33 : decode cX9_carries 33 = .ok (.iaload, 1) := by decide +kernel
theorem dX9_carries_34 : decode cX9_carries 34 = .ok (.ireturn, 1) := by decide +kernel
theorem dX9_goes_0 : decode cX9_goes 0 = .ok (.iconst 0, 1) := by decide +kernel
theorem dX9_goes_1 : decode cX9_goes 1 = .ok (.istore_n 1, 1) := by decide +kernel
theorem dX9_goes_2 : decode cX9_goes 2 = .ok (.aload_n 0, 1) := by decide +kernel
theorem dX9_goes_3 : decode cX9_goes 3 = .ok (.getfield 104, 3) := by decide +kernel
theorem dX9_goes_6 : decode cX9_goes 6 = .ok (.istore_n 2, 1) := by decide +kernel
theorem dX9_goes_7 : decode cX9_goes 7 = .ok (.iconst 0, 1) := by decide +kernel
theorem dX9_goes_8 : decode cX9_goes 8 = .ok (.istore_n 3, 1) := by decide +kernel
theorem dX9_goes_9 : decode cX9_goes 9 = .ok (.iload_n 3, 1) := by decide +kernel
theorem dX9_goes_10 : decode cX9_goes 10 = .ok (.bipush 8, 2) := by decide +kernel
theorem dX9_goes_12 : decode cX9_goes 12 = .ok (.if_icmp .ge 161, 3) := by decide +kernel
theorem dX9_goes_15 : decode cX9_goes 15 = .ok (.aload_n 0, 1) := by decide +kernel
theorem dX9_goes_16 : decode cX9_goes 16 = .ok (.getfield 19, 3) := by decide +kernel
theorem dX9_goes_19 : decode cX9_goes 19 = .ok (.bipush 19, 2) := by decide +kernel
theorem dX9_goes_21 : decode cX9_goes 21 = .ok (.iload_n 3, 1) := by decide +kernel
theorem dX9_goes_22 : decode cX9_goes 22 = .ok (.iadd, 1) := by decide +kernel
theorem dX9_goes_23 : decode cX9_goes 23 = .ok (.dup2, 1) := by decide +kernel
theorem dX9_goes_24 : decode cX9_goes 24 = .ok (.iaload, 1) := by decide +kernel
theorem dX9_goes_25 : decode cX9_goes 25 = .ok (.aload_n 0, 1) := by decide +kernel
theorem dX9_goes_26 : decode cX9_goes 26 = .ok (.getfield 19, 3) := by decide +kernel
theorem dX9_goes_29 : decode cX9_goes 29 = .ok (.bipush 51, 2) := by decide +kernel
theorem dX9_goes_31 : decode cX9_goes 31 = .ok (.iload_n 3, 1) := by decide +kernel
theorem dX9_goes_32 : decode cX9_goes 32 = .ok (.iadd, 1) := by decide +kernel
theorem dX9_goes_33 : decode cX9_goes 33 = .ok (.iaload, 1) := by decide +kernel
theorem dX9_goes_34 : decode cX9_goes 34 = .ok (.isub, 1) := by decide +kernel
theorem dX9_goes_35 : decode cX9_goes 35 = .ok (.iastore, 1) := by decide +kernel
theorem dX9_goes_36 : decode cX9_goes 36 = .ok (.aload_n 0, 1) := by decide +kernel
theorem dX9_goes_37 : decode cX9_goes 37 = .ok (.getfield 19, 3) := by decide +kernel
theorem dX9_goes_40 : decode cX9_goes 40 = .ok (.bipush 51, 2) := by decide +kernel
theorem dX9_goes_42 : decode cX9_goes 42 = .ok (.iload_n 3, 1) := by decide +kernel
theorem dX9_goes_43 : decode cX9_goes 43 = .ok (.iadd, 1) := by decide +kernel
theorem dX9_goes_44 : decode cX9_goes 44 = .ok (.iaload, 1) := by decide +kernel
theorem dX9_goes_45 : decode cX9_goes 45 = .ok (.iconst 1, 1) := by decide +kernel
theorem dX9_goes_46 : decode cX9_goes 46 = .ok (.if_icmp .ne 121, 3) := by decide +kernel
theorem dX9_goes_49 : decode cX9_goes 49 = .ok (.aload_n 0, 1) := by decide +kernel
theorem dX9_goes_50 : decode cX9_goes 50 = .ok (.getfield 19, 3) := by decide +kernel
theorem dX9_goes_53 : decode cX9_goes 53 = .ok (.bipush 19, 2) := by decide +kernel
theorem dX9_goes_55 : decode cX9_goes 55 = .ok (.iload_n 3, 1) := by decide +kernel
theorem dX9_goes_56 : decode cX9_goes 56 = .ok (.iadd, 1) := by decide +kernel
theorem dX9_goes_57 : decode cX9_goes 57 = .ok (.iaload, 1) := by decide +kernel
theorem dX9_goes_58 : decode cX9_goes 58 = .ok (.ifCond .gt 109, 3) := by decide +kernel
theorem dX9_goes_61 : decode cX9_goes 61 = .ok (.iload_n 2, 1) := by decide +kernel
theorem dX9_goes_62 : decode cX9_goes 62 = .ok (.ifCond .le 105, 3) := by decide +kernel
theorem dX9_goes_65 : decode cX9_goes 65 = .ok (.iinc 2 (-1), 3) := by decide +kernel
theorem dX9_goes_68 : decode cX9_goes 68 = .ok (.iload_n 1, 1) := by decide +kernel
theorem dX9_goes_69 : decode cX9_goes 69 = .ok (.iconst 1, 1) := by decide +kernel
theorem dX9_goes_70 : decode cX9_goes 70 = .ok (.iload_n 3, 1) := by decide +kernel
theorem dX9_goes_71 : decode cX9_goes 71 = .ok (.ishl, 1) := by decide +kernel
theorem dX9_goes_72 : decode cX9_goes 72 = .ok (.ior, 1) := by decide +kernel
theorem dX9_goes_73 : decode cX9_goes 73 = .ok (.istore_n 1, 1) := by decide +kernel
theorem dX9_goes_74 : decode cX9_goes 74 = .ok (.aload_n 0, 1) := by decide +kernel
theorem dX9_goes_75 : decode cX9_goes 75 = .ok (.getfield 19, 3) := by decide +kernel
theorem dX9_goes_78 : decode cX9_goes 78 = .ok (.iconst 1, 1) := by decide +kernel
theorem dX9_goes_79 : decode cX9_goes 79 = .ok (.iaload, 1) := by decide +kernel
theorem dX9_goes_80 : decode cX9_goes 80 = .ok (.aload_n 0, 1) := by decide +kernel
theorem dX9_goes_81 : decode cX9_goes 81 = .ok (.getfield 19, 3) := by decide +kernel
theorem dX9_goes_84 : decode cX9_goes 84 = .ok (.bipush 27, 2) := by decide +kernel
theorem dX9_goes_86 : decode cX9_goes 86 = .ok (.iload_n 3, 1) := by decide +kernel
theorem dX9_goes_87 : decode cX9_goes 87 = .ok (.iadd, 1) := by decide +kernel
theorem dX9_goes_88 : decode cX9_goes 88 = .ok (.iaload, 1) := by decide +kernel
theorem dX9_goes_89 : decode cX9_goes 89 = .ok (.iconst 1, 1) := by decide +kernel
theorem dX9_goes_90 : decode cX9_goes 90 = .ok (.if_icmp .ne 12, 3) := by decide +kernel
theorem dX9_goes_93 : decode cX9_goes 93 = .ok (.aload_n 0, 1) := by decide +kernel
theorem dX9_goes_94 : decode cX9_goes 94 = .ok (.iload_n 3, 1) := by decide +kernel
theorem dX9_goes_95 : decode cX9_goes 95 = .ok (.invokevirtual 107, 3) := by decide +kernel
theorem dX9_goes_98 : decode cX9_goes 98 = .ok (.ineg, 1) := by decide +kernel
theorem dX9_goes_99 : decode cX9_goes 99 = .ok (.goto 8, 3) := by decide +kernel
theorem dX9_goes_102 : decode cX9_goes 102 = .ok (.aload_n 0, 1) := by decide +kernel
theorem dX9_goes_103 : decode cX9_goes 103 = .ok (.iload_n 3, 1) := by decide +kernel
theorem dX9_goes_104 : decode cX9_goes 104 = .ok (.invokevirtual 107, 3) := by decide +kernel
theorem dX9_goes_107 : decode cX9_goes 107 = .ok (.iadd, 1) := by decide +kernel
theorem dX9_goes_108 : decode cX9_goes 108 = .ok (.istore 4, 2) := by decide +kernel
theorem dX9_goes_110 : decode cX9_goes 110 = .ok (.aload_n 0, 1) := by decide +kernel
theorem dX9_goes_111 : decode cX9_goes 111 = .ok (.getfield 19, 3) := by decide +kernel
theorem dX9_goes_114 : decode cX9_goes 114 = .ok (.iconst 1, 1) := by decide +kernel
theorem dX9_goes_115 : decode cX9_goes 115 = .ok (.iload 4, 2) := by decide +kernel
theorem dX9_goes_117 : decode cX9_goes 117 = .ok (.ifCond .ge 7, 3) := by decide +kernel
theorem dX9_goes_120 : decode cX9_goes 120 = .ok (.iconst 0, 1) := by decide +kernel
theorem dX9_goes_121 : decode cX9_goes 121 = .ok (.goto 17, 3) := by decide +kernel
theorem dX9_goes_124 : decode cX9_goes 124 = .ok (.iload 4, 2) := by decide +kernel
theorem dX9_goes_126 : decode cX9_goes 126 = .ok (.ldc 110, 2) := by decide +kernel
theorem dX9_goes_128 : decode cX9_goes 128 = .ok (.if_icmp .le 8, 3) := by decide +kernel
theorem dX9_goes_131 : decode cX9_goes 131 = .ok (.ldc 110, 2) := by decide +kernel
theorem dX9_goes_133 : decode cX9_goes 133 = .ok (.goto 5, 3) := by decide +kernel
theorem dX9_goes_136 : decode cX9_goes 136 = .ok (.iload 4, 2) := by decide +kernel
theorem dX9_goes_138 : decode cX9_goes 138 = .ok (.iastore, 1) := by decide +kernel
theorem dX9_goes_139 : decode cX9_goes 139 = .ok (.aload_n 0, 1) := by decide +kernel
theorem dX9_goes_140 : decode cX9_goes 140 = .ok (.getfield 19, 3) := by decide +kernel
theorem dX9_goes_143 : decode cX9_goes 143 = .ok (.bipush 19, 2) := by decide +kernel
theorem dX9_goes_145 : decode cX9_goes 145 = .ok (.iload_n 3, 1) := by decide +kernel
theorem dX9_goes_146 : decode cX9_goes 146 = .ok (.iadd, 1) := by decide +kernel
theorem dX9_goes_147 : decode cX9_goes 147 = .ok (.aload_n 0, 1) := by decide +kernel
theorem dX9_goes_148 : decode cX9_goes 148 = .ok (.getfield 19, 3) := by decide +kernel
theorem dX9_goes_151 : decode cX9_goes 151 = .ok (.bipush 11, 2) := by decide +kernel
theorem dX9_goes_153 : decode cX9_goes 153 = .ok (.iload_n 3, 1) := by decide +kernel
theorem dX9_goes_154 : decode cX9_goes 154 = .ok (.iadd, 1) := by decide +kernel
theorem dX9_goes_155 : decode cX9_goes 155 = .ok (.iaload, 1) := by decide +kernel
theorem dX9_goes_156 : decode cX9_goes 156 = .ok (.iastore, 1) := by decide +kernel
theorem dX9_goes_157 : decode cX9_goes 157 = .ok (.aload_n 0, 1) := by decide +kernel
theorem dX9_goes_158 : decode cX9_goes 158 = .ok (.getfield 19, 3) := by decide +kernel
theorem dX9_goes_161 : decode cX9_goes 161 = .ok (.bipush 43, 2) := by decide +kernel
theorem dX9_goes_163 : decode cX9_goes 163 = .ok (.iload_n 3, 1) := by decide +kernel
theorem dX9_goes_164 : decode cX9_goes 164 = .ok (.iadd, 1) := by decide +kernel
theorem dX9_goes_165 : decode cX9_goes 165 = .ok (.iconst 1, 1) := by decide +kernel
theorem dX9_goes_166 : decode cX9_goes 166 = .ok (.iastore, 1) := by decide +kernel
theorem dX9_goes_167 : decode cX9_goes 167 = .ok (.iinc 3 1, 3) := by decide +kernel
theorem dX9_goes_170 : decode cX9_goes 170 = .ok (.goto (-161), 3) := by decide +kernel
theorem dX9_goes_173 : decode cX9_goes 173 = .ok (.aload_n 0, 1) := by decide +kernel
theorem dX9_goes_174 : decode cX9_goes 174 = .ok (.aload_n 0, 1) := by decide +kernel
theorem dX9_goes_175 : decode cX9_goes 175 = .ok (.getfield 19, 3) := by decide +kernel
theorem dX9_goes_178 : decode cX9_goes 178 = .ok (.iconst 1, 1) := by decide +kernel
theorem dX9_goes_179 : decode cX9_goes 179 = .ok (.iaload, 1) := by decide +kernel
theorem dX9_goes_180 : decode cX9_goes 180 = .ok (.aload_n 0, 1) := by decide +kernel
theorem dX9_goes_181 : decode cX9_goes 181 = .ok (.getfield 111, 3) := by decide +kernel
theorem dX9_goes_184 : decode cX9_goes 184 = .ok (.if_icmp .ge 12, 3) := by decide +kernel
theorem dX9_goes_187 : decode cX9_goes 187 = .ok (.aload_n 0, 1) := by decide +kernel
theorem dX9_goes_188 : decode cX9_goes 188 = .ok (.getfield 19, 3) := by decide +kernel
theorem dX9_goes_191 : decode cX9_goes 191 = .ok (.iconst 1, 1) := by decide +kernel
theorem dX9_goes_192 : decode cX9_goes 192 = .ok (.iaload, 1) := by decide +kernel
theorem dX9_goes_193 : decode cX9_goes 193 = .ok (.goto 7, 3) := by decide +kernel
theorem dX9_goes_196 : decode cX9_goes 196 = .ok (.aload_n 0, 1) := by decide +kernel
theorem dX9_goes_197 : decode cX9_goes 197 = .ok (.getfield 111, 3) := by decide +kernel
theorem dX9_goes_200 : decode cX9_goes 200 = .ok (.putfield 114, 3) := by decide +kernel
theorem dX9_goes_203 : decode cX9_goes 203 = .ok (.aload_n 0, 1) := by decide +kernel
theorem dX9_goes_204 : decode cX9_goes 204 = .ok (.getfield 19, 3) := by decide +kernel
theorem dX9_goes_207 : decode cX9_goes 207 = .ok (.iconst 1, 1) := by decide +kernel
theorem dX9_goes_208 : decode cX9_goes 208 = .ok (.dup2, 1) := by decide +kernel
theorem dX9_goes_209 : decode cX9_goes 209 = .ok (.iaload, 1) := by decide +kernel
theorem dX9_goes_210 : decode cX9_goes 210 = .ok (.aload_n 0, 1) := by decide +kernel
theorem dX9_goes_211 : decode cX9_goes 211 = .ok (.getfield 114, 3) := by decide +kernel
theorem dX9_goes_214 : decode cX9_goes 214 = .ok (.isub, 1) := by decide +kernel
theorem dX9_goes_215 : decode cX9_goes 215 = .ok (.iastore, 1) := by decide +kernel
theorem dX9_goes_216 : decode cX9_goes 216 = .ok (.aload_n 0, 1) := by decide +kernel
theorem dX9_goes_217 : decode cX9_goes 217 = .ok (.getfield 19, 3) := by decide +kernel
theorem dX9_goes_220 : decode cX9_goes 220 = .ok (.iconst 0, 1) := by decide +kernel
theorem dX9_goes_221 : decode cX9_goes 221 = .ok (.dup2, 1) := by decide +kernel
theorem dX9_goes_222 : decode cX9_goes 222 = .ok (.iaload, 1) := by decide +kernel
theorem dX9_goes_223 : decode cX9_goes 223 = .ok (.iconst 1, 1) := by decide +kernel
theorem dX9_goes_224 : decode cX9_goes 224 = .ok (.iadd, 1) := by decide +kernel
theorem dX9_goes_225 : decode cX9_goes 225 = .ok (.iastore, 1) := by decide +kernel
theorem dX9_goes_226 : decode cX9_goes 226 = .ok (.aload_n 0, 1) := by decide +kernel
theorem dX9_goes_227 : decode cX9_goes 227 = .ok (.getfield 19, 3) := by decide +kernel
theorem dX9_goes_230 : decode cX9_goes 230 = .ok (.iconst 2, 1) := by decide +kernel
theorem dX9_goes_231 : decode cX9_goes 231 = .ok (.aload_n 0, 1) := by decide +kernel
theorem dX9_goes_232 : decode cX9_goes 232 = .ok (.invokevirtual 88, 3) := by decide +kernel
theorem dX9_goes_235 : decode cX9_goes 235 = .ok (.aload_n 0, 1) := by decide +kernel
theorem dX9_goes_236 : decode cX9_goes 236 = .ok (.getfield 19, 3) := by decide +kernel
theorem dX9_goes_239 : decode cX9_goes 239 = .ok (.iconst 2, 1) := by decide +kernel
theorem dX9_goes_240 : decode cX9_goes 240 = .ok (.iaload, 1) := by decide +kernel
theorem dX9_goes_241 : decode cX9_goes 241 = .ok (.if_icmp .le 10, 3) := by decide +kernel
theorem dX9_goes_244 : decode cX9_goes 244 = .ok (.aload_n 0, 1) := by decide +kernel
theorem dX9_goes_245 : decode cX9_goes 245 = .ok (.invokevirtual 88, 3) := by decide +kernel
theorem dX9_goes_248 : decode cX9_goes 248 = .ok (.goto 9, 3) := by decide +kernel
theorem dX9_goes_251 : decode cX9_goes 251 = .ok (.aload_n 0, 1) := by decide +kernel
theorem dX9_goes_252 : decode cX9_goes 252 = .ok (.getfield 19, 3) := by decide +kernel
theorem dX9_goes_255 : decode cX9_goes 255 = .ok (.iconst 2, 1) := by decide +kernel
theorem dX9_goes_256 : decode cX9_goes 256 = .ok (.iaload, 1) := by decide +kernel
theorem dX9_goes_257 : decode cX9_goes 257 = .ok (.iastore, 1) := by decide +kernel
theorem dX9_goes_258 : decode cX9_goes 258 = .ok (.iload_n 1, 1) := by decide +kernel
theorem dX9_goes_259 : decode cX9_goes 259 = .ok (.ireturn, 1) := by decide +kernel
theorem dX9_asTold_0 : decode cX9_asTold 0 = .ok (.aload_n 0, 1) := by decide +kernel
theorem dX9_asTold_1 : decode cX9_asTold 1 = .ok (.aload_n 0, 1) := by decide +kernel
theorem dX9_asTold_2 : decode cX9_asTold 2 = .ok (.getfield 13, 3) := by decide +kernel
theorem dX9_asTold_5 : decode cX9_asTold 5 = .ok (.iconst 4, 1) := by decide +kernel
theorem dX9_asTold_6 : decode cX9_asTold 6 = .ok (.iaload, 1) := by decide +kernel
theorem dX9_asTold_7 : decode cX9_asTold 7 = .ok (.putfield 104, 3) := by decide +kernel
theorem dX9_asTold_10 : decode cX9_asTold 10 = .ok (.aload_n 0, 1) := by decide +kernel
theorem dX9_asTold_11 : decode cX9_asTold 11 = .ok (.aload_n 0, 1) := by decide +kernel
theorem dX9_asTold_12 : decode cX9_asTold 12 = .ok (.getfield 13, 3) := by decide +kernel
theorem dX9_asTold_15 : decode cX9_asTold 15 = .ok (.iconst 2, 1) := by decide +kernel
theorem dX9_asTold_16 : decode cX9_asTold 16 = .ok (.iaload, 1) := by decide +kernel
theorem dX9_asTold_17 : decode cX9_asTold 17 = .ok (.putfield 111, 3) := by decide +kernel
theorem dX9_asTold_20 : decode cX9_asTold 20 = .ok (.return_, 1) := by decide +kernel
theorem dX9_minute_0 : decode cX9_minute 0 = .ok (.aload_n 0, 1) := by decide +kernel
theorem dX9_minute_1 : decode cX9_minute 1 = .ok (.getfield 19, 3) := by decide +kernel
theorem dX9_minute_4 : decode cX9_minute 4 = .ok (.iconst 0, 1) := by decide +kernel
theorem dX9_minute_5 : decode cX9_minute 5 = .ok (.iaload, 1) := by decide +kernel
theorem dX9_minute_6 : decode cX9_minute 6 = .ok (.sipush 9999, 3) := by decide +kernel
theorem dX9_minute_9 : decode cX9_minute 9 = .ok (.if_icmp .ne 6, 3) := by decide +kernel
theorem dX9_minute_12 : decode cX9_minute 12 = .ok (.bipush (-2), 2) := by decide +kernel
theorem dX9_minute_14 : decode cX9_minute 14 = .ok (.ireturn, 1) := by decide +kernel
theorem dX9_minute_15 : decode cX9_minute 15 = .ok (.aload_n 0, 1) := by decide +kernel
theorem dX9_minute_16 : decode cX9_minute 16 = .ok (.invokevirtual 117, 3) := by decide +kernel
theorem dX9_minute_19 : decode cX9_minute 19 = .ok (.aload_n 0, 1) := by decide +kernel
theorem dX9_minute_20 : decode cX9_minute 20 = .ok (.invokevirtual 120, 3) := by decide +kernel
theorem dX9_minute_23 : decode cX9_minute 23 = .ok (.aload_n 0, 1) := by decide +kernel
theorem dX9_minute_24 : decode cX9_minute 24 = .ok (.invokevirtual 123, 3) := by decide +kernel
theorem dX9_minute_27 : decode cX9_minute 27 = .ok (.pop, 1) := by decide +kernel
theorem dX9_minute_28 : decode cX9_minute 28 = .ok (.aload_n 0, 1) := by decide +kernel
theorem dX9_minute_29 : decode cX9_minute 29 = .ok (.invokevirtual 88, 3) := by decide +kernel
theorem dX9_minute_32 : decode cX9_minute 32 = .ok (.ireturn, 1) := by decide +kernel
theorem dX9_free_0 : decode cX9_free 0 = .ok (.bipush (-9), 2) := by decide +kernel
theorem dX9_free_2 : decode cX9_free 2 = .ok (.istore_n 1, 1) := by decide +kernel
theorem dX9_free_3 : decode cX9_free 3 = .ok (.bipush 7, 2) := by decide +kernel
theorem dX9_free_5 : decode cX9_free 5 = .ok (.istore_n 2, 1) := by decide +kernel
theorem dX9_free_6 : decode cX9_free 6 = .ok (.iload_n 2, 1) := by decide +kernel
theorem dX9_free_7 : decode cX9_free 7 = .ok (.ifCond .lt 27, 3) := by decide +kernel
theorem dX9_free_10 : decode cX9_free 10 = .ok (.aload_n 0, 1) := by decide +kernel
theorem dX9_free_11 : decode cX9_free 11 = .ok (.getfield 19, 3) := by decide +kernel
theorem dX9_free_14 : decode cX9_free 14 = .ok (.bipush 51, 2) := by decide +kernel
theorem dX9_free_16 : decode cX9_free 16 = .ok (.iload_n 2, 1) := by decide +kernel
theorem dX9_free_17 : decode cX9_free 17 = .ok (.iadd, 1) := by decide +kernel
theorem dX9_free_18 : decode cX9_free 18 = .ok (.iaload, 1) := by decide +kernel
theorem dX9_free_19 : decode cX9_free 19 = .ok (.ifCond .ne 7, 3) := by decide +kernel
theorem dX9_free_22 : decode cX9_free 22 = .ok (.iload_n 2, 1) := by decide +kernel
theorem dX9_free_23 : decode cX9_free 23 = .ok (.goto 4, 3) := by decide +kernel
theorem dX9_free_26 : decode cX9_free 26 = .ok (.iload_n 1, 1) := by decide +kernel
theorem dX9_free_27 : decode cX9_free 27 = .ok (.istore_n 1, 1) := by decide +kernel
theorem dX9_free_28 : decode cX9_free 28 = .ok (.iinc 2 (-1), 3) := by decide +kernel
theorem dX9_free_31 : decode cX9_free 31 = .ok (.goto (-25), 3) := by decide +kernel
theorem dX9_free_34 : decode cX9_free 34 = .ok (.iload_n 1, 1) := by decide +kernel
theorem dX9_free_35 : decode cX9_free 35 = .ok (.ireturn, 1) := by decide +kernel
theorem dX9_splitsNow_0 : decode cX9_splitsNow 0 = .ok (.aload_n 0, 1) := by decide +kernel
theorem dX9_splitsNow_1 : decode cX9_splitsNow 1 = .ok (.invokevirtual 126, 3) := by decide +kernel
theorem dX9_splitsNow_4 : decode cX9_splitsNow 4 = .ok (.istore_n 2, 1) := by decide +kernel
theorem dX9_splitsNow_5 : decode cX9_splitsNow 5 = .ok (.aload_n 0, 1) := by decide +kernel
theorem dX9_splitsNow_6 : decode cX9_splitsNow 6 = .ok (.getfield 19, 3) := by decide +kernel
theorem dX9_splitsNow_9 : decode cX9_splitsNow 9 = .ok (.iconst 3, 1) := by decide +kernel
theorem dX9_splitsNow_10 : decode cX9_splitsNow 10 = .ok (.iload_n 1, 1) := by decide +kernel
theorem dX9_splitsNow_11 : decode cX9_splitsNow 11 = .ok (.iadd, 1) := by decide +kernel
theorem dX9_splitsNow_12 : decode cX9_splitsNow 12 = .ok (.iaload, 1) := by decide +kernel
theorem dX9_splitsNow_13 : decode cX9_splitsNow 13 = .ok (.iconst 1, 1) := by decide +kernel
theorem dX9_splitsNow_14 : decode cX9_splitsNow 14 = .ok (.if_icmp .ne 16, 3) := by decide +kernel
theorem dX9_splitsNow_17 : decode cX9_splitsNow 17 = .ok (.aload_n 0, 1) := by decide +kernel
theorem dX9_splitsNow_18 : decode cX9_splitsNow 18 = .ok (.getfield 19, 3) := by decide +kernel
theorem dX9_splitsNow_21 : decode cX9_splitsNow 21 = .ok (.bipush 51, 2) := by decide +kernel
theorem dX9_splitsNow_23 : decode cX9_splitsNow 23 = .ok (.iload_n 1, 1) := by decide +kernel
theorem dX9_splitsNow_24 : decode cX9_splitsNow 24 = .ok (.iadd, 1) := by decide +kernel
theorem dX9_splitsNow_25 : decode cX9_splitsNow 25 = .ok (.iconst 0, 1) := by decide +kernel
theorem dX9_splitsNow_26 : decode cX9_splitsNow 26 = .ok (.iastore, 1) := by decide +kernel
theorem dX9_splitsNow_27 : decode cX9_splitsNow 27 = .ok (.bipush (-9), 2) := by decide +kernel
theorem dX9_splitsNow_29 : decode cX9_splitsNow 29 = .ok (.ireturn, 1) := by decide +kernel
theorem dX9_splitsNow_30 : decode cX9_splitsNow 30 = .ok (.aload_n 0, 1) := by decide +kernel
theorem dX9_splitsNow_31 : decode cX9_splitsNow 31 = .ok (.getfield 19, 3) := by decide +kernel
theorem dX9_splitsNow_34 : decode cX9_splitsNow 34 = .ok (.iconst 3, 1) := by decide +kernel
theorem dX9_splitsNow_35 : decode cX9_splitsNow 35 = .ok (.iload_n 1, 1) := by decide +kernel
theorem dX9_splitsNow_36 : decode cX9_splitsNow 36 = .ok (.iadd, 1) := by decide +kernel
theorem dX9_splitsNow_37 : decode cX9_splitsNow 37 = .ok (.dup2, 1) := by decide +kernel
theorem dX9_splitsNow_38 : decode cX9_splitsNow 38 = .ok (.iaload, 1) := by decide +kernel
theorem dX9_splitsNow_39 : decode cX9_splitsNow 39 = .ok (.iconst 2, 1) := by decide +kernel
theorem dX9_splitsNow_40 : decode cX9_splitsNow 40 = .ok (.idiv, 1) := by decide +kernel
theorem dX9_splitsNow_41 : decode cX9_splitsNow 41 = .ok (.iastore, 1) := by decide +kernel
theorem dX9_splitsNow_42 : decode cX9_splitsNow 42 = .ok (.aload_n 0, 1) := by decide +kernel
theorem dX9_splitsNow_43 : decode cX9_splitsNow 43 = .ok (.getfield 19, 3) := by decide +kernel
theorem dX9_splitsNow_46 : decode cX9_splitsNow 46 = .ok (.bipush 11, 2) := by decide +kernel
theorem dX9_splitsNow_48 : decode cX9_splitsNow 48 = .ok (.iload_n 1, 1) := by decide +kernel
theorem dX9_splitsNow_49 : decode cX9_splitsNow 49 = .ok (.iadd, 1) := by decide +kernel
theorem dX9_splitsNow_50 : decode cX9_splitsNow 50 = .ok (.iconst 2, 1) := by decide +kernel
theorem dX9_splitsNow_51 : decode cX9_splitsNow 51 = .ok (.aload_n 0, 1) := by decide +kernel
theorem dX9_splitsNow_52 : decode cX9_splitsNow 52 = .ok (.getfield 19, 3) := by decide +kernel
theorem dX9_splitsNow_55 : decode cX9_splitsNow 55 = .ok (.bipush 11, 2) := by decide +kernel
theorem dX9_splitsNow_57 : decode cX9_splitsNow 57 = .ok (.iload_n 1, 1) := by decide +kernel
theorem dX9_splitsNow_58 : decode cX9_splitsNow 58 = .ok (.iadd, 1) := by decide +kernel
theorem dX9_splitsNow_59 : decode cX9_splitsNow 59 = .ok (.iaload, 1) := by decide +kernel
theorem dX9_splitsNow_60 : decode cX9_splitsNow 60 = .ok (.imul, 1) := by decide +kernel
theorem dX9_splitsNow_61 : decode cX9_splitsNow 61 = .ok (.bipush 40, 2) := by decide +kernel
theorem dX9_splitsNow_63 : decode cX9_splitsNow 63 = .ok (.if_icmp .le 8, 3) := by decide +kernel
theorem dX9_splitsNow_66 : decode cX9_splitsNow 66 = .ok (.bipush 40, 2) := by decide +kernel
theorem dX9_splitsNow_68 : decode cX9_splitsNow 68 = .ok (.goto 14, 3) := by decide +kernel
theorem dX9_splitsNow_71 : decode cX9_splitsNow 71 = .ok (.iconst 2, 1) := by decide +kernel
theorem dX9_splitsNow_72 : decode cX9_splitsNow 72 = .ok (.aload_n 0, 1) := by decide +kernel
theorem dX9_splitsNow_73 : decode cX9_splitsNow 73 = .ok (.getfield 19, 3) := by decide +kernel
theorem dX9_splitsNow_76 : decode cX9_splitsNow 76 = .ok (.bipush 11, 2) := by decide +kernel
theorem dX9_splitsNow_78 : decode cX9_splitsNow 78 = .ok (.iload_n 1, 1) := by decide +kernel
theorem dX9_splitsNow_79 : decode cX9_splitsNow 79 = .ok (.iadd, 1) := by decide +kernel
theorem dX9_splitsNow_80 : decode cX9_splitsNow 80 = .ok (.iaload, 1) := by decide +kernel
theorem dX9_splitsNow_81 : decode cX9_splitsNow 81 = .ok (.imul, 1) := by decide +kernel
theorem dX9_splitsNow_82 : decode cX9_splitsNow 82 = .ok (.iastore, 1) := by decide +kernel
theorem dX9_splitsNow_83 : decode cX9_splitsNow 83 = .ok (.iconst 0, 1) := by decide +kernel
theorem dX9_splitsNow_84 : decode cX9_splitsNow 84 = .ok (.istore_n 3, 1) := by decide +kernel
theorem dX9_splitsNow_85 : decode cX9_splitsNow 85 = .ok (.iload_n 3, 1) := by decide +kernel
theorem dX9_splitsNow_86 : decode cX9_splitsNow 86 = .ok (.bipush 7, 2) := by decide +kernel
theorem dX9_splitsNow_88 : decode cX9_splitsNow 88 = .ok (.if_icmp .ge 35, 3) := by decide +kernel
theorem dX9_splitsNow_91 : decode cX9_splitsNow 91 = .ok (.aload_n 0, 1) := by decide +kernel
theorem dX9_splitsNow_92 : decode cX9_splitsNow 92 = .ok (.getfield 19, 3) := by decide +kernel
theorem dX9_splitsNow_95 : decode cX9_splitsNow 95 = .ok (.iconst 3, 1) := by decide +kernel
theorem dX9_splitsNow_96 : decode cX9_splitsNow 96 = .ok (.bipush 8, 2) := by decide +kernel
theorem dX9_splitsNow_98 : decode cX9_splitsNow 98 = .ok (.iload_n 3, 1) := by decide +kernel
theorem dX9_splitsNow_99 : decode cX9_splitsNow 99 = .ok (.imul, 1) := by decide +kernel
theorem dX9_splitsNow_100 : decode cX9_splitsNow 100 = .ok (.iadd, 1) := by decide +kernel
theorem dX9_splitsNow_101 : decode cX9_splitsNow 101 = .ok (.iload_n 2, 1) := by decide +kernel
theorem dX9_splitsNow_102 : decode cX9_splitsNow 102 = .ok (.iadd, 1) := by decide +kernel
theorem dX9_splitsNow_103 : decode cX9_splitsNow 103 = .ok (.aload_n 0, 1) := by decide +kernel
theorem dX9_splitsNow_104 : decode cX9_splitsNow 104 = .ok (.getfield 19, 3) := by decide +kernel
theorem dX9_splitsNow_107 : decode cX9_splitsNow 107 = .ok (.iconst 3, 1) := by decide +kernel
theorem dX9_splitsNow_108 : decode cX9_splitsNow 108 = .ok (.bipush 8, 2) := by decide +kernel
theorem dX9_splitsNow_110 : decode cX9_splitsNow 110 = .ok (.iload_n 3, 1) := by decide +kernel
theorem dX9_splitsNow_111 : decode cX9_splitsNow 111 = .ok (.imul, 1) := by decide +kernel
theorem dX9_splitsNow_112 : decode cX9_splitsNow 112 = .ok (.iadd, 1) := by decide +kernel
theorem dX9_splitsNow_113 : decode cX9_splitsNow 113 = .ok (.iload_n 1, 1) := by decide +kernel
theorem dX9_splitsNow_114 : decode cX9_splitsNow 114 = .ok (.iadd, 1) := by decide +kernel
theorem dX9_splitsNow_115 : decode cX9_splitsNow 115 = .ok (.iaload, 1) := by decide +kernel
theorem dX9_splitsNow_116 : decode cX9_splitsNow 116 = .ok (.iastore, 1) := by decide +kernel
theorem dX9_splitsNow_117 : decode cX9_splitsNow 117 = .ok (.iinc 3 1, 3) := by decide +kernel
theorem dX9_splitsNow_120 : decode cX9_splitsNow 120 = .ok (.goto (-35), 3) := by decide +kernel
theorem dX9_splitsNow_123 : decode cX9_splitsNow 123 = .ok (.iload_n 2, 1) := by decide +kernel
theorem dX9_splitsNow_124 : decode cX9_splitsNow 124 = .ok (.ireturn, 1) := by decide +kernel
theorem dX9_canSplit_0 : decode cX9_canSplit 0 = .ok (.aload_n 0, 1) := by decide +kernel
theorem dX9_canSplit_1 : decode cX9_canSplit 1 = .ok (.getfield 19, 3) := by decide +kernel
theorem dX9_canSplit_4 : decode cX9_canSplit 4 = .ok (.iconst 3, 1) := by decide +kernel
theorem dX9_canSplit_5 : decode cX9_canSplit 5 = .ok (.iload_n 1, 1) := by decide +kernel
theorem dX9_canSplit_6 : decode cX9_canSplit 6 = .ok (.iadd, 1) := by decide +kernel
theorem dX9_canSplit_7 : decode cX9_canSplit 7 = .ok (.iaload, 1) := by decide +kernel
theorem dX9_canSplit_8 : decode cX9_canSplit 8 = .ok (.iconst 1, 1) := by decide +kernel
theorem dX9_canSplit_9 : decode cX9_canSplit 9 = .ok (.if_icmp .eq 12, 3) := by decide +kernel
theorem dX9_canSplit_12 : decode cX9_canSplit 12 = .ok (.aload_n 0, 1) := by decide +kernel
theorem dX9_canSplit_13 : decode cX9_canSplit 13 = .ok (.invokevirtual 126, 3) := by decide +kernel
theorem dX9_canSplit_16 : decode cX9_canSplit 16 = .ok (.bipush (-9), 2) := by decide +kernel
theorem dX9_canSplit_18 : decode cX9_canSplit 18 = .ok (.if_icmp .eq 7, 3) := by decide +kernel
theorem dX9_canSplit_21 : decode cX9_canSplit 21 = .ok (.iconst 1, 1) := by decide +kernel
theorem dX9_canSplit_22 : decode cX9_canSplit 22 = .ok (.goto 4, 3) := by decide +kernel
theorem dX9_canSplit_25 : decode cX9_canSplit 25 = .ok (.iconst 0, 1) := by decide +kernel
theorem dX9_canSplit_26 : decode cX9_canSplit 26 = .ok (.ireturn, 1) := by decide +kernel
theorem dX9_splits_0 : decode cX9_splits 0 = .ok (.aload_n 0, 1) := by decide +kernel
theorem dX9_splits_1 : decode cX9_splits 1 = .ok (.iload_n 1, 1) := by decide +kernel
theorem dX9_splits_2 : decode cX9_splits 2 = .ok (.invokevirtual 129, 3) := by decide +kernel
theorem dX9_splits_5 : decode cX9_splits 5 = .ok (.ifCond .ne 5, 3) := by decide +kernel
theorem dX9_splits_8 : decode cX9_splits 8 = .ok (.iconst (-1), 1) := by decide +kernel
theorem dX9_splits_9 : decode cX9_splits 9 = .ok (.ireturn, 1) := by decide +kernel
theorem dX9_splits_10 : decode cX9_splits 10 = .ok (.aload_n 0, 1) := by decide +kernel
theorem dX9_splits_11 : decode cX9_splits 11 = .ok (.iload_n 1, 1) := by decide +kernel
theorem dX9_splits_12 : decode cX9_splits 12 = .ok (.invokevirtual 132, 3) := by decide +kernel
theorem dX9_splits_15 : decode cX9_splits 15 = .ok (.ifCond .ne 6, 3) := by decide +kernel
theorem dX9_splits_18 : decode cX9_splits 18 = .ok (.bipush (-3), 2) := by decide +kernel
theorem dX9_splits_20 : decode cX9_splits 20 = .ok (.ireturn, 1) := by decide +kernel
theorem dX9_splits_21 : decode cX9_splits 21 = .ok (.aload_n 0, 1) := by decide +kernel
theorem dX9_splits_22 : decode cX9_splits 22 = .ok (.invokevirtual 117, 3) := by decide +kernel
theorem dX9_splits_25 : decode cX9_splits 25 = .ok (.aload_n 0, 1) := by decide +kernel
theorem dX9_splits_26 : decode cX9_splits 26 = .ok (.iload_n 1, 1) := by decide +kernel
theorem dX9_splits_27 : decode cX9_splits 27 = .ok (.invokevirtual 135, 3) := by decide +kernel
theorem dX9_splits_30 : decode cX9_splits 30 = .ok (.ireturn, 1) := by decide +kernel
theorem dX9_teaches_0 : decode cX9_teaches 0 = .ok (.aload_n 0, 1) := by decide +kernel
theorem dX9_teaches_1 : decode cX9_teaches 1 = .ok (.iload_n 1, 1) := by decide +kernel
theorem dX9_teaches_2 : decode cX9_teaches 2 = .ok (.invokevirtual 129, 3) := by decide +kernel
theorem dX9_teaches_5 : decode cX9_teaches 5 = .ok (.ifCond .ne 5, 3) := by decide +kernel
theorem dX9_teaches_8 : decode cX9_teaches 8 = .ok (.iconst (-1), 1) := by decide +kernel
theorem dX9_teaches_9 : decode cX9_teaches 9 = .ok (.ireturn, 1) := by decide +kernel
theorem dX9_teaches_10 : decode cX9_teaches 10 = .ok (.aload_n 0, 1) := by decide +kernel
theorem dX9_teaches_11 : decode cX9_teaches 11 = .ok (.invokevirtual 117, 3) := by decide +kernel
theorem dX9_teaches_14 : decode cX9_teaches 14 = .ok (.aload_n 0, 1) := by decide +kernel
theorem dX9_teaches_15 : decode cX9_teaches 15 = .ok (.getfield 19, 3) := by decide +kernel
theorem dX9_teaches_18 : decode cX9_teaches 18 = .ok (.bipush 27, 2) := by decide +kernel
theorem dX9_teaches_20 : decode cX9_teaches 20 = .ok (.iload_n 1, 1) := by decide +kernel
theorem dX9_teaches_21 : decode cX9_teaches 21 = .ok (.iadd, 1) := by decide +kernel
theorem dX9_teaches_22 : decode cX9_teaches 22 = .ok (.iconst 1, 1) := by decide +kernel
theorem dX9_teaches_23 : decode cX9_teaches 23 = .ok (.aload_n 0, 1) := by decide +kernel
theorem dX9_teaches_24 : decode cX9_teaches 24 = .ok (.getfield 19, 3) := by decide +kernel
theorem dX9_teaches_27 : decode cX9_teaches 27 = .ok (.bipush 27, 2) := by decide +kernel
theorem dX9_teaches_29 : decode cX9_teaches 29 = .ok (.iload_n 1, 1) := by decide +kernel
theorem dX9_teaches_30 : decode cX9_teaches 30 = .ok (.iadd, 1) := by decide +kernel
theorem dX9_teaches_31 : decode cX9_teaches 31 = .ok (.iaload, 1) := by decide +kernel
theorem dX9_teaches_32 : decode cX9_teaches 32 = .ok (.isub, 1) := by decide +kernel
theorem dX9_teaches_33 : decode cX9_teaches 33 = .ok (.iastore, 1) := by decide +kernel
theorem dX9_teaches_34 : decode cX9_teaches 34 = .ok (.aload_n 0, 1) := by decide +kernel
theorem dX9_teaches_35 : decode cX9_teaches 35 = .ok (.getfield 19, 3) := by decide +kernel
theorem dX9_teaches_38 : decode cX9_teaches 38 = .ok (.bipush 27, 2) := by decide +kernel
theorem dX9_teaches_40 : decode cX9_teaches 40 = .ok (.iload_n 1, 1) := by decide +kernel
theorem dX9_teaches_41 : decode cX9_teaches 41 = .ok (.iadd, 1) := by decide +kernel
theorem dX9_teaches_42 : decode cX9_teaches 42 = .ok (.iaload, 1) := by decide +kernel
theorem dX9_teaches_43 : decode cX9_teaches 43 = .ok (.ireturn, 1) := by decide +kernel
theorem dX9_bores_0 : decode cX9_bores 0 = .ok (.aload_n 0, 1) := by decide +kernel
theorem dX9_bores_1 : decode cX9_bores 1 = .ok (.iload_n 1, 1) := by decide +kernel
theorem dX9_bores_2 : decode cX9_bores 2 = .ok (.invokevirtual 129, 3) := by decide +kernel
theorem dX9_bores_5 : decode cX9_bores 5 = .ok (.ifCond .ne 5, 3) := by decide +kernel
theorem dX9_bores_8 : decode cX9_bores 8 = .ok (.iconst (-1), 1) := by decide +kernel
theorem dX9_bores_9 : decode cX9_bores 9 = .ok (.ireturn, 1) := by decide +kernel
theorem dX9_bores_10 : decode cX9_bores 10 = .ok (.aload_n 0, 1) := by decide +kernel
theorem dX9_bores_11 : decode cX9_bores 11 = .ok (.getfield 19, 3) := by decide +kernel
theorem dX9_bores_14 : decode cX9_bores 14 = .ok (.bipush 35, 2) := by decide +kernel
theorem dX9_bores_16 : decode cX9_bores 16 = .ok (.iload_n 1, 1) := by decide +kernel
theorem dX9_bores_17 : decode cX9_bores 17 = .ok (.iadd, 1) := by decide +kernel
theorem dX9_bores_18 : decode cX9_bores 18 = .ok (.iaload, 1) := by decide +kernel
theorem dX9_bores_19 : decode cX9_bores 19 = .ok (.iconst 1, 1) := by decide +kernel
theorem dX9_bores_20 : decode cX9_bores 20 = .ok (.if_icmp .ne 6, 3) := by decide +kernel
theorem dX9_bores_23 : decode cX9_bores 23 = .ok (.bipush (-2), 2) := by decide +kernel
theorem dX9_bores_25 : decode cX9_bores 25 = .ok (.ireturn, 1) := by decide +kernel
theorem dX9_bores_26 : decode cX9_bores 26 = .ok (.aload_n 0, 1) := by decide +kernel
theorem dX9_bores_27 : decode cX9_bores 27 = .ok (.invokevirtual 117, 3) := by decide +kernel
theorem dX9_bores_30 : decode cX9_bores 30 = .ok (.aload_n 0, 1) := by decide +kernel
theorem dX9_bores_31 : decode cX9_bores 31 = .ok (.getfield 19, 3) := by decide +kernel
theorem dX9_bores_34 : decode cX9_bores 34 = .ok (.bipush 35, 2) := by decide +kernel
theorem dX9_bores_36 : decode cX9_bores 36 = .ok (.iload_n 1, 1) := by decide +kernel
theorem dX9_bores_37 : decode cX9_bores 37 = .ok (.iadd, 1) := by decide +kernel
theorem dX9_bores_38 : decode cX9_bores 38 = .ok (.iconst 1, 1) := by decide +kernel
theorem dX9_bores_39 : decode cX9_bores 39 = .ok (.iastore, 1) := by decide +kernel
theorem dX9_bores_40 : decode cX9_bores 40 = .ok (.aload_n 0, 1) := by decide +kernel
theorem dX9_bores_41 : decode cX9_bores 41 = .ok (.getfield 19, 3) := by decide +kernel
theorem dX9_bores_44 : decode cX9_bores 44 = .ok (.iconst 3, 1) := by decide +kernel
theorem dX9_bores_45 : decode cX9_bores 45 = .ok (.iload_n 1, 1) := by decide +kernel
theorem dX9_bores_46 : decode cX9_bores 46 = .ok (.iadd, 1) := by decide +kernel
theorem dX9_bores_47 : decode cX9_bores 47 = .ok (.iaload, 1) := by decide +kernel
theorem dX9_bores_48 : decode cX9_bores 48 = .ok (.ireturn, 1) := by decide +kernel
theorem dX9_burns_0 : decode cX9_burns 0 = .ok (.aload_n 0, 1) := by decide +kernel
theorem dX9_burns_1 : decode cX9_burns 1 = .ok (.iload_n 1, 1) := by decide +kernel
theorem dX9_burns_2 : decode cX9_burns 2 = .ok (.invokevirtual 129, 3) := by decide +kernel
theorem dX9_burns_5 : decode cX9_burns 5 = .ok (.ifCond .ne 5, 3) := by decide +kernel
theorem dX9_burns_8 : decode cX9_burns 8 = .ok (.iconst (-1), 1) := by decide +kernel
theorem dX9_burns_9 : decode cX9_burns 9 = .ok (.ireturn, 1) := by decide +kernel
theorem dX9_burns_10 : decode cX9_burns 10 = .ok (.aload_n 0, 1) := by decide +kernel
theorem dX9_burns_11 : decode cX9_burns 11 = .ok (.getfield 19, 3) := by decide +kernel
theorem dX9_burns_14 : decode cX9_burns 14 = .ok (.bipush 43, 2) := by decide +kernel
theorem dX9_burns_16 : decode cX9_burns 16 = .ok (.iload_n 1, 1) := by decide +kernel
theorem dX9_burns_17 : decode cX9_burns 17 = .ok (.iadd, 1) := by decide +kernel
theorem dX9_burns_18 : decode cX9_burns 18 = .ok (.iaload, 1) := by decide +kernel
theorem dX9_burns_19 : decode cX9_burns 19 = .ok (.iconst 1, 1) := by decide +kernel
theorem dX9_burns_20 : decode cX9_burns 20 = .ok (.if_icmp .ne 6, 3) := by decide +kernel
theorem dX9_burns_23 : decode cX9_burns 23 = .ok (.bipush (-2), 2) := by decide +kernel
theorem dX9_burns_25 : decode cX9_burns 25 = .ok (.ireturn, 1) := by decide +kernel
theorem dX9_burns_26 : decode cX9_burns 26 = .ok (.aload_n 0, 1) := by decide +kernel
theorem dX9_burns_27 : decode cX9_burns 27 = .ok (.invokevirtual 117, 3) := by decide +kernel
theorem dX9_burns_30 : decode cX9_burns 30 = .ok (.aload_n 0, 1) := by decide +kernel
theorem dX9_burns_31 : decode cX9_burns 31 = .ok (.getfield 19, 3) := by decide +kernel
theorem dX9_burns_34 : decode cX9_burns 34 = .ok (.bipush 51, 2) := by decide +kernel
theorem dX9_burns_36 : decode cX9_burns 36 = .ok (.iload_n 1, 1) := by decide +kernel
theorem dX9_burns_37 : decode cX9_burns 37 = .ok (.iadd, 1) := by decide +kernel
theorem dX9_burns_38 : decode cX9_burns 38 = .ok (.iconst 0, 1) := by decide +kernel
theorem dX9_burns_39 : decode cX9_burns 39 = .ok (.iastore, 1) := by decide +kernel
theorem dX9_burns_40 : decode cX9_burns 40 = .ok (.aload_n 0, 1) := by decide +kernel
theorem dX9_burns_41 : decode cX9_burns 41 = .ok (.invokevirtual 101, 3) := by decide +kernel
theorem dX9_burns_44 : decode cX9_burns 44 = .ok (.invokestatic 138, 3) := by decide +kernel
theorem dX9_burns_47 : decode cX9_burns 47 = .ok (.ireturn, 1) := by decide +kernel
theorem dX9_halts_0 : decode cX9_halts 0 = .ok (.aload_n 0, 1) := by decide +kernel
theorem dX9_halts_1 : decode cX9_halts 1 = .ok (.iload_n 1, 1) := by decide +kernel
theorem dX9_halts_2 : decode cX9_halts 2 = .ok (.invokevirtual 129, 3) := by decide +kernel
theorem dX9_halts_5 : decode cX9_halts 5 = .ok (.ifCond .ne 5, 3) := by decide +kernel
theorem dX9_halts_8 : decode cX9_halts 8 = .ok (.iconst (-1), 1) := by decide +kernel
theorem dX9_halts_9 : decode cX9_halts 9 = .ok (.ireturn, 1) := by decide +kernel
theorem dX9_halts_10 : decode cX9_halts 10 = .ok (.aload_n 0, 1) := by decide +kernel
theorem dX9_halts_11 : decode cX9_halts 11 = .ok (.invokevirtual 117, 3) := by decide +kernel
theorem dX9_halts_14 : decode cX9_halts 14 = .ok (.aload_n 0, 1) := by decide +kernel
theorem dX9_halts_15 : decode cX9_halts 15 = .ok (.getfield 19, 3) := by decide +kernel
theorem dX9_halts_18 : decode cX9_halts 18 = .ok (.bipush 51, 2) := by decide +kernel
theorem dX9_halts_20 : decode cX9_halts 20 = .ok (.iload_n 1, 1) := by decide +kernel
theorem dX9_halts_21 : decode cX9_halts 21 = .ok (.iadd, 1) := by decide +kernel
theorem dX9_halts_22 : decode cX9_halts 22 = .ok (.iconst 0, 1) := by decide +kernel
theorem dX9_halts_23 : decode cX9_halts 23 = .ok (.iastore, 1) := by decide +kernel
theorem dX9_halts_24 : decode cX9_halts 24 = .ok (.aload_n 0, 1) := by decide +kernel
theorem dX9_halts_25 : decode cX9_halts 25 = .ok (.invokevirtual 101, 3) := by decide +kernel
theorem dX9_halts_28 : decode cX9_halts 28 = .ok (.invokestatic 138, 3) := by decide +kernel
theorem dX9_halts_31 : decode cX9_halts 31 = .ok (.ireturn, 1) := by decide +kernel
theorem dX9_undo_0 : decode cX9_undo 0 = .ok (.aload_n 0, 1) := by decide +kernel
theorem dX9_undo_1 : decode cX9_undo 1 = .ok (.getfield 95, 3) := by decide +kernel
theorem dX9_undo_4 : decode cX9_undo 4 = .ok (.ifCond .ne 6, 3) := by decide +kernel
theorem dX9_undo_7 : decode cX9_undo 7 = .ok (.bipush (-2), 2) := by decide +kernel
theorem dX9_undo_9 : decode cX9_undo 9 = .ok (.ireturn, 1) := by decide +kernel
theorem dX9_undo_10 : decode cX9_undo 10 = .ok (.aload_n 0, 1) := by decide +kernel
theorem dX9_undo_11 : decode cX9_undo 11 = .ok (.dup, 1) := by decide +kernel
theorem dX9_undo_12 : decode cX9_undo 12 = .ok (.getfield 95, 3) := by decide +kernel
theorem dX9_undo_15 : decode cX9_undo 15 = .ok (.iconst 1, 1) := by decide +kernel
theorem dX9_undo_16 : decode cX9_undo 16 = .ok (.isub, 1) := by decide +kernel
theorem dX9_undo_17 : decode cX9_undo 17 = .ok (.putfield 95, 3) := by decide +kernel
theorem dX9_undo_20 : decode cX9_undo 20 = .ok (.iconst 0, 1) := by decide +kernel
theorem dX9_undo_21 : decode cX9_undo 21 = .ok (.istore_n 1, 1) := by decide +kernel
theorem dX9_undo_22 : decode cX9_undo 22 = .ok (.iload_n 1, 1) := by decide +kernel
theorem dX9_undo_23 : decode cX9_undo 23 = .ok (.bipush 59, 2) := by decide +kernel
theorem dX9_undo_25 : decode cX9_undo 25 = .ok (.if_icmp .ge 29, 3) := by decide +kernel
theorem dX9_undo_28 : decode cX9_undo 28 = .ok (.aload_n 0, 1) := by decide +kernel
theorem dX9_undo_29 : decode cX9_undo 29 = .ok (.getfield 19, 3) := by decide +kernel
theorem dX9_undo_32 : decode cX9_undo 32 = .ok (.iload_n 1, 1) := by decide +kernel
theorem dX9_undo_33 : decode cX9_undo 33 = .ok (.aload_n 0, 1) := by decide +kernel
theorem dX9_undo_34 : decode cX9_undo 34 = .ok (.getfield 22, 3) := by decide +kernel
theorem dX9_undo_37 : decode cX9_undo 37 = .ok (.bipush 59, 2) := by decide +kernel
theorem dX9_undo_39 : decode cX9_undo 39 = .ok (.aload_n 0, 1) := by decide +kernel
theorem dX9_undo_40 : decode cX9_undo 40 = .ok (.getfield 95, 3) := by decide +kernel
theorem dX9_undo_43 : decode cX9_undo 43 = .ok (.imul, 1) := by decide +kernel
theorem dX9_undo_44 : decode cX9_undo 44 = .ok (.iload_n 1, 1) := by decide +kernel
theorem dX9_undo_45 : decode cX9_undo 45 = .ok (.iadd, 1) := by decide +kernel
theorem dX9_undo_46 : decode cX9_undo 46 = .ok (.iaload, 1) := by decide +kernel
theorem dX9_undo_47 : decode cX9_undo 47 = .ok (.iastore, 1) := by decide +kernel
theorem dX9_undo_48 : decode cX9_undo 48 = .ok (.iinc 1 1, 3) := by decide +kernel
theorem dX9_undo_51 : decode cX9_undo 51 = .ok (.goto (-29), 3) := by decide +kernel
theorem dX9_undo_54 : decode cX9_undo 54 = .ok (.aload_n 0, 1) := by decide +kernel
theorem dX9_undo_55 : decode cX9_undo 55 = .ok (.getfield 95, 3) := by decide +kernel
theorem dX9_undo_58 : decode cX9_undo 58 = .ok (.ireturn, 1) := by decide +kernel
theorem dX9_holds_0 : decode cX9_holds 0 = .ok (.iconst 0, 1) := by decide +kernel
theorem dX9_holds_1 : decode cX9_holds 1 = .ok (.istore_n 1, 1) := by decide +kernel
theorem dX9_holds_2 : decode cX9_holds 2 = .ok (.iload_n 1, 1) := by decide +kernel
theorem dX9_holds_3 : decode cX9_holds 3 = .ok (.bipush 59, 2) := by decide +kernel
theorem dX9_holds_5 : decode cX9_holds 5 = .ok (.if_icmp .ge 21, 3) := by decide +kernel
theorem dX9_holds_8 : decode cX9_holds 8 = .ok (.aload_n 0, 1) := by decide +kernel
theorem dX9_holds_9 : decode cX9_holds 9 = .ok (.getfield 35, 3) := by decide +kernel
theorem dX9_holds_12 : decode cX9_holds 12 = .ok (.iload_n 1, 1) := by decide +kernel
theorem dX9_holds_13 : decode cX9_holds 13 = .ok (.aload_n 0, 1) := by decide +kernel
theorem dX9_holds_14 : decode cX9_holds 14 = .ok (.getfield 19, 3) := by decide +kernel
theorem dX9_holds_17 : decode cX9_holds 17 = .ok (.iload_n 1, 1) := by decide +kernel
theorem dX9_holds_18 : decode cX9_holds 18 = .ok (.iaload, 1) := by decide +kernel
theorem dX9_holds_19 : decode cX9_holds 19 = .ok (.iastore, 1) := by decide +kernel
theorem dX9_holds_20 : decode cX9_holds 20 = .ok (.iinc 1 1, 3) := by decide +kernel
theorem dX9_holds_23 : decode cX9_holds 23 = .ok (.goto (-21), 3) := by decide +kernel
theorem dX9_holds_26 : decode cX9_holds 26 = .ok (.aload_n 0, 1) := by decide +kernel
theorem dX9_holds_27 : decode cX9_holds 27 = .ok (.invokevirtual 120, 3) := by decide +kernel
theorem dX9_holds_30 : decode cX9_holds 30 = .ok (.return_, 1) := by decide +kernel
theorem dX9_lets_0 : decode cX9_lets 0 = .ok (.iconst 0, 1) := by decide +kernel
theorem dX9_lets_1 : decode cX9_lets 1 = .ok (.istore_n 1, 1) := by decide +kernel
theorem dX9_lets_2 : decode cX9_lets 2 = .ok (.iload_n 1, 1) := by decide +kernel
theorem dX9_lets_3 : decode cX9_lets 3 = .ok (.bipush 59, 2) := by decide +kernel
theorem dX9_lets_5 : decode cX9_lets 5 = .ok (.if_icmp .ge 21, 3) := by decide +kernel
theorem dX9_lets_8 : decode cX9_lets 8 = .ok (.aload_n 0, 1) := by decide +kernel
theorem dX9_lets_9 : decode cX9_lets 9 = .ok (.getfield 19, 3) := by decide +kernel
theorem dX9_lets_12 : decode cX9_lets 12 = .ok (.iload_n 1, 1) := by decide +kernel
theorem dX9_lets_13 : decode cX9_lets 13 = .ok (.aload_n 0, 1) := by decide +kernel
theorem dX9_lets_14 : decode cX9_lets 14 = .ok (.getfield 35, 3) := by decide +kernel
theorem dX9_lets_17 : decode cX9_lets 17 = .ok (.iload_n 1, 1) := by decide +kernel
theorem dX9_lets_18 : decode cX9_lets 18 = .ok (.iaload, 1) := by decide +kernel
theorem dX9_lets_19 : decode cX9_lets 19 = .ok (.iastore, 1) := by decide +kernel
theorem dX9_lets_20 : decode cX9_lets 20 = .ok (.iinc 1 1, 3) := by decide +kernel
theorem dX9_lets_23 : decode cX9_lets 23 = .ok (.goto (-21), 3) := by decide +kernel
theorem dX9_lets_26 : decode cX9_lets 26 = .ok (.return_, 1) := by decide +kernel
theorem dX9_stands_0 : decode cX9_stands 0 = .ok (.iload_n 1, 1) := by decide +kernel
theorem dX9_stands_1 : decode cX9_stands 1 = .ok (.iconst 0, 1) := by decide +kernel
theorem dX9_stands_2 : decode cX9_stands 2 = .ok (.sipush 200, 3) := by decide +kernel
theorem dX9_stands_5 : decode cX9_stands 5 = .ok (.invokestatic 45, 3) := by decide +kernel
theorem dX9_stands_8 : decode cX9_stands 8 = .ok (.ifCond .ne 5, 3) := by decide +kernel
theorem dX9_stands_11 : decode cX9_stands 11 = .ok (.iconst (-1), 1) := by decide +kernel
theorem dX9_stands_12 : decode cX9_stands 12 = .ok (.ireturn, 1) := by decide +kernel
theorem dX9_stands_13 : decode cX9_stands 13 = .ok (.aload_n 0, 1) := by decide +kernel
theorem dX9_stands_14 : decode cX9_stands 14 = .ok (.invokevirtual 141, 3) := by decide +kernel
theorem dX9_stands_17 : decode cX9_stands 17 = .ok (.iconst 0, 1) := by decide +kernel
theorem dX9_stands_18 : decode cX9_stands 18 = .ok (.istore_n 2, 1) := by decide +kernel
theorem dX9_stands_19 : decode cX9_stands 19 = .ok (.iload_n 2, 1) := by decide +kernel
theorem dX9_stands_20 : decode cX9_stands 20 = .ok (.iload_n 1, 1) := by decide +kernel
theorem dX9_stands_21 : decode cX9_stands 21 = .ok (.if_icmp .ge 14, 3) := by decide +kernel
theorem dX9_stands_24 : decode cX9_stands 24 = .ok (.aload_n 0, 1) := by decide +kernel
theorem dX9_stands_25 : decode cX9_stands 25 = .ok (.invokevirtual 123, 3) := by decide +kernel
theorem dX9_stands_28 : decode cX9_stands 28 = .ok (.pop, 1) := by decide +kernel
theorem dX9_stands_29 : decode cX9_stands 29 = .ok (.iinc 2 1, 3) := by decide +kernel
theorem dX9_stands_32 : decode cX9_stands 32 = .ok (.goto (-13), 3) := by decide +kernel
theorem dX9_stands_35 : decode cX9_stands 35 = .ok (.aload_n 0, 1) := by decide +kernel
theorem dX9_stands_36 : decode cX9_stands 36 = .ok (.invokevirtual 88, 3) := by decide +kernel
theorem dX9_stands_39 : decode cX9_stands 39 = .ok (.istore_n 2, 1) := by decide +kernel
theorem dX9_stands_40 : decode cX9_stands 40 = .ok (.aload_n 0, 1) := by decide +kernel
theorem dX9_stands_41 : decode cX9_stands 41 = .ok (.invokevirtual 144, 3) := by decide +kernel
theorem dX9_stands_44 : decode cX9_stands 44 = .ok (.iload_n 2, 1) := by decide +kernel
theorem dX9_stands_45 : decode cX9_stands 45 = .ok (.ireturn, 1) := by decide +kernel
theorem dX9_above_0 : decode cX9_above 0 = .ok (.aload_n 0, 1) := by decide +kernel
theorem dX9_above_1 : decode cX9_above 1 = .ok (.invokevirtual 141, 3) := by decide +kernel
theorem dX9_above_4 : decode cX9_above 4 = .ok (.bipush (-9), 2) := by decide +kernel
theorem dX9_above_6 : decode cX9_above 6 = .ok (.istore_n 1, 1) := by decide +kernel
theorem dX9_above_7 : decode cX9_above 7 = .ok (.iconst 0, 1) := by decide +kernel
theorem dX9_above_8 : decode cX9_above 8 = .ok (.istore_n 2, 1) := by decide +kernel
theorem dX9_above_9 : decode cX9_above 9 = .ok (.iload_n 2, 1) := by decide +kernel
theorem dX9_above_10 : decode cX9_above 10 = .ok (.sipush 200, 3) := by decide +kernel
theorem dX9_above_13 : decode cX9_above 13 = .ok (.if_icmp .gt 40, 3) := by decide +kernel
theorem dX9_above_16 : decode cX9_above 16 = .ok (.iload_n 1, 1) := by decide +kernel
theorem dX9_above_17 : decode cX9_above 17 = .ok (.bipush (-9), 2) := by decide +kernel
theorem dX9_above_19 : decode cX9_above 19 = .ok (.if_icmp .ne 34, 3) := by decide +kernel
theorem dX9_above_22 : decode cX9_above 22 = .ok (.aload_n 0, 1) := by decide +kernel
theorem dX9_above_23 : decode cX9_above 23 = .ok (.invokevirtual 88, 3) := by decide +kernel
theorem dX9_above_26 : decode cX9_above 26 = .ok (.aload_n 0, 1) := by decide +kernel
theorem dX9_above_27 : decode cX9_above 27 = .ok (.getfield 13, 3) := by decide +kernel
theorem dX9_above_30 : decode cX9_above 30 = .ok (.iconst 3, 1) := by decide +kernel
theorem dX9_above_31 : decode cX9_above 31 = .ok (.iaload, 1) := by decide +kernel
theorem dX9_above_32 : decode cX9_above 32 = .ok (.if_icmp .le 7, 3) := by decide +kernel
theorem dX9_above_35 : decode cX9_above 35 = .ok (.iload_n 2, 1) := by decide +kernel
theorem dX9_above_36 : decode cX9_above 36 = .ok (.goto 5, 3) := by decide +kernel
theorem dX9_above_39 : decode cX9_above 39 = .ok (.bipush (-9), 2) := by decide +kernel
theorem dX9_above_41 : decode cX9_above 41 = .ok (.istore_n 1, 1) := by decide +kernel
theorem dX9_above_42 : decode cX9_above 42 = .ok (.aload_n 0, 1) := by decide +kernel
theorem dX9_above_43 : decode cX9_above 43 = .ok (.invokevirtual 123, 3) := by decide +kernel
theorem dX9_above_46 : decode cX9_above 46 = .ok (.pop, 1) := by decide +kernel
theorem dX9_above_47 : decode cX9_above 47 = .ok (.iinc 2 1, 3) := by decide +kernel
theorem dX9_above_50 : decode cX9_above 50 = .ok (.goto (-41), 3) := by decide +kernel
theorem dX9_above_53 : decode cX9_above 53 = .ok (.aload_n 0, 1) := by decide +kernel
theorem dX9_above_54 : decode cX9_above 54 = .ok (.invokevirtual 144, 3) := by decide +kernel
theorem dX9_above_57 : decode cX9_above 57 = .ok (.iload_n 1, 1) := by decide +kernel
theorem dX9_above_58 : decode cX9_above 58 = .ok (.ireturn, 1) := by decide +kernel
theorem dX9_highest_0 : decode cX9_highest 0 = .ok (.aload_n 0, 1) := by decide +kernel
theorem dX9_highest_1 : decode cX9_highest 1 = .ok (.invokevirtual 88, 3) := by decide +kernel
theorem dX9_highest_4 : decode cX9_highest 4 = .ok (.istore_n 2, 1) := by decide +kernel
theorem dX9_highest_5 : decode cX9_highest 5 = .ok (.iconst 0, 1) := by decide +kernel
theorem dX9_highest_6 : decode cX9_highest 6 = .ok (.istore_n 3, 1) := by decide +kernel
theorem dX9_highest_7 : decode cX9_highest 7 = .ok (.iload_n 3, 1) := by decide +kernel
theorem dX9_highest_8 : decode cX9_highest 8 = .ok (.iload_n 1, 1) := by decide +kernel
theorem dX9_highest_9 : decode cX9_highest 9 = .ok (.if_icmp .ge 31, 3) := by decide +kernel
theorem dX9_highest_12 : decode cX9_highest 12 = .ok (.aload_n 0, 1) := by decide +kernel
theorem dX9_highest_13 : decode cX9_highest 13 = .ok (.invokevirtual 123, 3) := by decide +kernel
theorem dX9_highest_16 : decode cX9_highest 16 = .ok (.pop, 1) := by decide +kernel
theorem dX9_highest_17 : decode cX9_highest 17 = .ok (.aload_n 0, 1) := by decide +kernel
theorem dX9_highest_18 : decode cX9_highest 18 = .ok (.invokevirtual 88, 3) := by decide +kernel
theorem dX9_highest_21 : decode cX9_highest 21 = .ok (.iload_n 2, 1) := by decide +kernel
theorem dX9_highest_22 : decode cX9_highest 22 = .ok (.if_icmp .le 10, 3) := by decide +kernel
theorem dX9_highest_25 : decode cX9_highest 25 = .ok (.aload_n 0, 1) := by decide +kernel
theorem dX9_highest_26 : decode cX9_highest 26 = .ok (.invokevirtual 88, 3) := by decide +kernel
theorem dX9_highest_29 : decode cX9_highest 29 = .ok (.goto 4, 3) := by decide +kernel
theorem dX9_highest_32 : decode cX9_highest 32 = .ok (.iload_n 2, 1) := by decide +kernel
theorem dX9_highest_33 : decode cX9_highest 33 = .ok (.istore_n 2, 1) := by decide +kernel
end
section
theorem dX9_highest_34 : decode cX9_highest 34 = .ok (.iinc 3 1, 3) := by decide +kernel
theorem dX9_highest_37 : decode cX9_highest 37 = .ok (.goto (-30), 3) := by decide +kernel
theorem dX9_highest_40 : decode cX9_highest 40 = .ok (.iload_n 2, 1) := by decide +kernel
theorem dX9_highest_41 : decode cX9_highest 41 = .ok (.ireturn, 1) := by decide +kernel
theorem dX9_most_0 : decode cX9_most 0 = .ok (.iload_n 1, 1) := by decide +kernel
theorem dX9_most_1 : decode cX9_most 1 = .ok (.iconst 0, 1) := by decide +kernel
theorem dX9_most_2 : decode cX9_most 2 = .ok (.sipush 200, 3) := by decide +kernel
theorem dX9_most_5 : decode cX9_most 5 = .ok (.invokestatic 45, 3) := by decide +kernel
theorem dX9_most_8 : decode cX9_most 8 = .ok (.ifCond .ne 5, 3) := by decide +kernel
theorem dX9_most_11 : decode cX9_most 11 = .ok (.iconst (-1), 1) := by decide +kernel
theorem dX9_most_12 : decode cX9_most 12 = .ok (.ireturn, 1) := by decide +kernel
theorem dX9_most_13 : decode cX9_most 13 = .ok (.aload_n 0, 1) := by decide +kernel
theorem dX9_most_14 : decode cX9_most 14 = .ok (.invokevirtual 141, 3) := by decide +kernel
theorem dX9_most_17 : decode cX9_most 17 = .ok (.aload_n 0, 1) := by decide +kernel
theorem dX9_most_18 : decode cX9_most 18 = .ok (.iload_n 1, 1) := by decide +kernel
theorem dX9_most_19 : decode cX9_most 19 = .ok (.invokevirtual 147, 3) := by decide +kernel
theorem dX9_most_22 : decode cX9_most 22 = .ok (.istore_n 2, 1) := by decide +kernel
theorem dX9_most_23 : decode cX9_most 23 = .ok (.aload_n 0, 1) := by decide +kernel
theorem dX9_most_24 : decode cX9_most 24 = .ok (.invokevirtual 144, 3) := by decide +kernel
theorem dX9_most_27 : decode cX9_most 27 = .ok (.iload_n 2, 1) := by decide +kernel
theorem dX9_most_28 : decode cX9_most 28 = .ok (.ireturn, 1) := by decide +kernel
theorem dX9_fewest_0 : decode cX9_fewest 0 = .ok (.aload_n 0, 1) := by decide +kernel
theorem dX9_fewest_1 : decode cX9_fewest 1 = .ok (.invokevirtual 141, 3) := by decide +kernel
theorem dX9_fewest_4 : decode cX9_fewest 4 = .ok (.bipush (-9), 2) := by decide +kernel
theorem dX9_fewest_6 : decode cX9_fewest 6 = .ok (.istore_n 3, 1) := by decide +kernel
theorem dX9_fewest_7 : decode cX9_fewest 7 = .ok (.iconst 0, 1) := by decide +kernel
theorem dX9_fewest_8 : decode cX9_fewest 8 = .ok (.istore 4, 2) := by decide +kernel
theorem dX9_fewest_10 : decode cX9_fewest 10 = .ok (.iload 4, 2) := by decide +kernel
theorem dX9_fewest_12 : decode cX9_fewest 12 = .ok (.sipush 256, 3) := by decide +kernel
theorem dX9_fewest_15 : decode cX9_fewest 15 = .ok (.if_icmp .ge 261, 3) := by decide +kernel
theorem dX9_fewest_18 : decode cX9_fewest 18 = .ok (.iload_n 3, 1) := by decide +kernel
theorem dX9_fewest_19 : decode cX9_fewest 19 = .ok (.bipush (-9), 2) := by decide +kernel
theorem dX9_fewest_21 : decode cX9_fewest 21 = .ok (.if_icmp .eq 15, 3) := by decide +kernel
theorem dX9_fewest_24 : decode cX9_fewest 24 = .ok (.iload 4, 2) := by decide +kernel
theorem dX9_fewest_26 : decode cX9_fewest 26 = .ok (.invokestatic 138, 3) := by decide +kernel
theorem dX9_fewest_29 : decode cX9_fewest 29 = .ok (.iload_n 3, 1) := by decide +kernel
theorem dX9_fewest_30 : decode cX9_fewest 30 = .ok (.invokestatic 138, 3) := by decide +kernel
theorem dX9_fewest_33 : decode cX9_fewest 33 = .ok (.if_icmp .ge 7, 3) := by decide +kernel
theorem dX9_fewest_36 : decode cX9_fewest 36 = .ok (.iconst 1, 1) := by decide +kernel
theorem dX9_fewest_37 : decode cX9_fewest 37 = .ok (.goto 4, 3) := by decide +kernel
theorem dX9_fewest_40 : decode cX9_fewest 40 = .ok (.iconst 0, 1) := by decide +kernel
theorem dX9_fewest_41 : decode cX9_fewest 41 = .ok (.istore 5, 2) := by decide +kernel
theorem dX9_fewest_43 : decode cX9_fewest 43 = .ok (.iconst 0, 1) := by decide +kernel
theorem dX9_fewest_44 : decode cX9_fewest 44 = .ok (.istore 6, 2) := by decide +kernel
theorem dX9_fewest_46 : decode cX9_fewest 46 = .ok (.iload 6, 2) := by decide +kernel
theorem dX9_fewest_48 : decode cX9_fewest 48 = .ok (.bipush 8, 2) := by decide +kernel
theorem dX9_fewest_50 : decode cX9_fewest 50 = .ok (.if_icmp .ge 90, 3) := by decide +kernel
theorem dX9_fewest_53 : decode cX9_fewest 53 = .ok (.aload_n 0, 1) := by decide +kernel
theorem dX9_fewest_54 : decode cX9_fewest 54 = .ok (.getfield 19, 3) := by decide +kernel
theorem dX9_fewest_57 : decode cX9_fewest 57 = .ok (.bipush 51, 2) := by decide +kernel
theorem dX9_fewest_59 : decode cX9_fewest 59 = .ok (.iload 6, 2) := by decide +kernel
theorem dX9_fewest_61 : decode cX9_fewest 61 = .ok (.iadd, 1) := by decide +kernel
theorem dX9_fewest_62 : decode cX9_fewest 62 = .ok (.iaload, 1) := by decide +kernel
theorem dX9_fewest_63 : decode cX9_fewest 63 = .ok (.iconst 1, 1) := by decide +kernel
theorem dX9_fewest_64 : decode cX9_fewest 64 = .ok (.if_icmp .ne 40, 3) := by decide +kernel
theorem dX9_fewest_67 : decode cX9_fewest 67 = .ok (.iload_n 2, 1) := by decide +kernel
theorem dX9_fewest_68 : decode cX9_fewest 68 = .ok (.ifCond .eq 19, 3) := by decide +kernel
theorem dX9_fewest_71 : decode cX9_fewest 71 = .ok (.aload_n 0, 1) := by decide +kernel
theorem dX9_fewest_72 : decode cX9_fewest 72 = .ok (.getfield 19, 3) := by decide +kernel
theorem dX9_fewest_75 : decode cX9_fewest 75 = .ok (.bipush 43, 2) := by decide +kernel
theorem dX9_fewest_77 : decode cX9_fewest 77 = .ok (.iload 6, 2) := by decide +kernel
theorem dX9_fewest_79 : decode cX9_fewest 79 = .ok (.iadd, 1) := by decide +kernel
theorem dX9_fewest_80 : decode cX9_fewest 80 = .ok (.iaload, 1) := by decide +kernel
theorem dX9_fewest_81 : decode cX9_fewest 81 = .ok (.ifCond .ne 23, 3) := by decide +kernel
theorem dX9_fewest_84 : decode cX9_fewest 84 = .ok (.goto 16, 3) := by decide +kernel
theorem dX9_fewest_87 : decode cX9_fewest 87 = .ok (.aload_n 0, 1) := by decide +kernel
theorem dX9_fewest_88 : decode cX9_fewest 88 = .ok (.getfield 19, 3) := by decide +kernel
theorem dX9_fewest_91 : decode cX9_fewest 91 = .ok (.bipush 27, 2) := by decide +kernel
theorem dX9_fewest_93 : decode cX9_fewest 93 = .ok (.iload 6, 2) := by decide +kernel
theorem dX9_fewest_95 : decode cX9_fewest 95 = .ok (.iadd, 1) := by decide +kernel
theorem dX9_fewest_96 : decode cX9_fewest 96 = .ok (.iaload, 1) := by decide +kernel
theorem dX9_fewest_97 : decode cX9_fewest 97 = .ok (.ifCond .ne 7, 3) := by decide +kernel
theorem dX9_fewest_100 : decode cX9_fewest 100 = .ok (.iconst 1, 1) := by decide +kernel
theorem dX9_fewest_101 : decode cX9_fewest 101 = .ok (.goto 4, 3) := by decide +kernel
theorem dX9_fewest_104 : decode cX9_fewest 104 = .ok (.iconst 0, 1) := by decide +kernel
theorem dX9_fewest_105 : decode cX9_fewest 105 = .ok (.istore 7, 2) := by decide +kernel
theorem dX9_fewest_107 : decode cX9_fewest 107 = .ok (.iload 5, 2) := by decide +kernel
theorem dX9_fewest_109 : decode cX9_fewest 109 = .ok (.ifCond .eq 22, 3) := by decide +kernel
theorem dX9_fewest_112 : decode cX9_fewest 112 = .ok (.iload 4, 2) := by decide +kernel
theorem dX9_fewest_114 : decode cX9_fewest 114 = .ok (.iload 6, 2) := by decide +kernel
theorem dX9_fewest_116 : decode cX9_fewest 116 = .ok (.ishr, 1) := by decide +kernel
theorem dX9_fewest_117 : decode cX9_fewest 117 = .ok (.iconst 1, 1) := by decide +kernel
theorem dX9_fewest_118 : decode cX9_fewest 118 = .ok (.iand, 1) := by decide +kernel
theorem dX9_fewest_119 : decode cX9_fewest 119 = .ok (.ifCond .eq 8, 3) := by decide +kernel
theorem dX9_fewest_122 : decode cX9_fewest 122 = .ok (.iload 7, 2) := by decide +kernel
theorem dX9_fewest_124 : decode cX9_fewest 124 = .ok (.ifCond .eq 7, 3) := by decide +kernel
theorem dX9_fewest_127 : decode cX9_fewest 127 = .ok (.iconst 1, 1) := by decide +kernel
theorem dX9_fewest_128 : decode cX9_fewest 128 = .ok (.goto 4, 3) := by decide +kernel
theorem dX9_fewest_131 : decode cX9_fewest 131 = .ok (.iconst 0, 1) := by decide +kernel
theorem dX9_fewest_132 : decode cX9_fewest 132 = .ok (.istore 5, 2) := by decide +kernel
theorem dX9_fewest_134 : decode cX9_fewest 134 = .ok (.iinc 6 1, 3) := by decide +kernel
theorem dX9_fewest_137 : decode cX9_fewest 137 = .ok (.goto (-91), 3) := by decide +kernel
theorem dX9_fewest_140 : decode cX9_fewest 140 = .ok (.iload 5, 2) := by decide +kernel
theorem dX9_fewest_142 : decode cX9_fewest 142 = .ok (.ifCond .eq 128, 3) := by decide +kernel
theorem dX9_fewest_145 : decode cX9_fewest 145 = .ok (.iconst 0, 1) := by decide +kernel
theorem dX9_fewest_146 : decode cX9_fewest 146 = .ok (.istore 6, 2) := by decide +kernel
theorem dX9_fewest_148 : decode cX9_fewest 148 = .ok (.iload 6, 2) := by decide +kernel
theorem dX9_fewest_150 : decode cX9_fewest 150 = .ok (.bipush 8, 2) := by decide +kernel
theorem dX9_fewest_152 : decode cX9_fewest 152 = .ok (.if_icmp .ge 93, 3) := by decide +kernel
theorem dX9_fewest_155 : decode cX9_fewest 155 = .ok (.iload 4, 2) := by decide +kernel
theorem dX9_fewest_157 : decode cX9_fewest 157 = .ok (.iload 6, 2) := by decide +kernel
theorem dX9_fewest_159 : decode cX9_fewest 159 = .ok (.ishr, 1) := by decide +kernel
theorem dX9_fewest_160 : decode cX9_fewest 160 = .ok (.iconst 1, 1) := by decide +kernel
theorem dX9_fewest_161 : decode cX9_fewest 161 = .ok (.iand, 1) := by decide +kernel
theorem dX9_fewest_162 : decode cX9_fewest 162 = .ok (.iconst 1, 1) := by decide +kernel
theorem dX9_fewest_163 : decode cX9_fewest 163 = .ok (.if_icmp .ne 7, 3) := by decide +kernel
theorem dX9_fewest_166 : decode cX9_fewest 166 = .ok (.iconst 1, 1) := by decide +kernel
theorem dX9_fewest_167 : decode cX9_fewest 167 = .ok (.goto 4, 3) := by decide +kernel
theorem dX9_fewest_170 : decode cX9_fewest 170 = .ok (.iconst 0, 1) := by decide +kernel
theorem dX9_fewest_171 : decode cX9_fewest 171 = .ok (.istore 7, 2) := by decide +kernel
theorem dX9_fewest_173 : decode cX9_fewest 173 = .ok (.aload_n 0, 1) := by decide +kernel
theorem dX9_fewest_174 : decode cX9_fewest 174 = .ok (.getfield 19, 3) := by decide +kernel
theorem dX9_fewest_177 : decode cX9_fewest 177 = .ok (.bipush 51, 2) := by decide +kernel
theorem dX9_fewest_179 : decode cX9_fewest 179 = .ok (.iload 6, 2) := by decide +kernel
theorem dX9_fewest_181 : decode cX9_fewest 181 = .ok (.iadd, 1) := by decide +kernel
theorem dX9_fewest_182 : decode cX9_fewest 182 = .ok (.iload 7, 2) := by decide +kernel
theorem dX9_fewest_184 : decode cX9_fewest 184 = .ok (.ifCond .eq 11, 3) := by decide +kernel
theorem dX9_fewest_187 : decode cX9_fewest 187 = .ok (.iload_n 2, 1) := by decide +kernel
theorem dX9_fewest_188 : decode cX9_fewest 188 = .ok (.ifCond .eq 7, 3) := by decide +kernel
theorem dX9_fewest_191 : decode cX9_fewest 191 = .ok (.iconst 0, 1) := by decide +kernel
theorem dX9_fewest_192 : decode cX9_fewest 192 = .ok (.goto 13, 3) := by decide +kernel
theorem dX9_fewest_195 : decode cX9_fewest 195 = .ok (.aload_n 0, 1) := by decide +kernel
theorem dX9_fewest_196 : decode cX9_fewest 196 = .ok (.getfield 19, 3) := by decide +kernel
theorem dX9_fewest_199 : decode cX9_fewest 199 = .ok (.bipush 51, 2) := by decide +kernel
theorem dX9_fewest_201 : decode cX9_fewest 201 = .ok (.iload 6, 2) := by decide +kernel
theorem dX9_fewest_203 : decode cX9_fewest 203 = .ok (.iadd, 1) := by decide +kernel
theorem dX9_fewest_204 : decode cX9_fewest 204 = .ok (.iaload, 1) := by decide +kernel
theorem dX9_fewest_205 : decode cX9_fewest 205 = .ok (.iastore, 1) := by decide +kernel
theorem dX9_fewest_206 : decode cX9_fewest 206 = .ok (.aload_n 0, 1) := by decide +kernel
theorem dX9_fewest_207 : decode cX9_fewest 207 = .ok (.getfield 19, 3) := by decide +kernel
theorem dX9_fewest_210 : decode cX9_fewest 210 = .ok (.bipush 27, 2) := by decide +kernel
theorem dX9_fewest_212 : decode cX9_fewest 212 = .ok (.iload 6, 2) := by decide +kernel
theorem dX9_fewest_214 : decode cX9_fewest 214 = .ok (.iadd, 1) := by decide +kernel
theorem dX9_fewest_215 : decode cX9_fewest 215 = .ok (.iload 7, 2) := by decide +kernel
theorem dX9_fewest_217 : decode cX9_fewest 217 = .ok (.ifCond .eq 11, 3) := by decide +kernel
theorem dX9_fewest_220 : decode cX9_fewest 220 = .ok (.iload_n 2, 1) := by decide +kernel
theorem dX9_fewest_221 : decode cX9_fewest 221 = .ok (.ifCond .ne 7, 3) := by decide +kernel
theorem dX9_fewest_224 : decode cX9_fewest 224 = .ok (.iconst 1, 1) := by decide +kernel
theorem dX9_fewest_225 : decode cX9_fewest 225 = .ok (.goto 13, 3) := by decide +kernel
theorem dX9_fewest_228 : decode cX9_fewest 228 = .ok (.aload_n 0, 1) := by decide +kernel
theorem dX9_fewest_229 : decode cX9_fewest 229 = .ok (.getfield 19, 3) := by decide +kernel
theorem dX9_fewest_232 : decode cX9_fewest 232 = .ok (.bipush 27, 2) := by decide +kernel
theorem dX9_fewest_234 : decode cX9_fewest 234 = .ok (.iload 6, 2) := by decide +kernel
theorem dX9_fewest_236 : decode cX9_fewest 236 = .ok (.iadd, 1) := by decide +kernel
theorem dX9_fewest_237 : decode cX9_fewest 237 = .ok (.iaload, 1) := by decide +kernel
theorem dX9_fewest_238 : decode cX9_fewest 238 = .ok (.iastore, 1) := by decide +kernel
theorem dX9_fewest_239 : decode cX9_fewest 239 = .ok (.iinc 6 1, 3) := by decide +kernel
theorem dX9_fewest_242 : decode cX9_fewest 242 = .ok (.goto (-94), 3) := by decide +kernel
theorem dX9_fewest_245 : decode cX9_fewest 245 = .ok (.aload_n 0, 1) := by decide +kernel
theorem dX9_fewest_246 : decode cX9_fewest 246 = .ok (.iload_n 1, 1) := by decide +kernel
theorem dX9_fewest_247 : decode cX9_fewest 247 = .ok (.invokevirtual 147, 3) := by decide +kernel
theorem dX9_fewest_250 : decode cX9_fewest 250 = .ok (.aload_n 0, 1) := by decide +kernel
theorem dX9_fewest_251 : decode cX9_fewest 251 = .ok (.getfield 13, 3) := by decide +kernel
theorem dX9_fewest_254 : decode cX9_fewest 254 = .ok (.iconst 3, 1) := by decide +kernel
theorem dX9_fewest_255 : decode cX9_fewest 255 = .ok (.iaload, 1) := by decide +kernel
theorem dX9_fewest_256 : decode cX9_fewest 256 = .ok (.if_icmp .gt 8, 3) := by decide +kernel
theorem dX9_fewest_259 : decode cX9_fewest 259 = .ok (.iload 4, 2) := by decide +kernel
theorem dX9_fewest_261 : decode cX9_fewest 261 = .ok (.goto 4, 3) := by decide +kernel
theorem dX9_fewest_264 : decode cX9_fewest 264 = .ok (.iload_n 3, 1) := by decide +kernel
theorem dX9_fewest_265 : decode cX9_fewest 265 = .ok (.istore_n 3, 1) := by decide +kernel
theorem dX9_fewest_266 : decode cX9_fewest 266 = .ok (.aload_n 0, 1) := by decide +kernel
theorem dX9_fewest_267 : decode cX9_fewest 267 = .ok (.invokevirtual 144, 3) := by decide +kernel
theorem dX9_fewest_270 : decode cX9_fewest 270 = .ok (.iinc 4 1, 3) := by decide +kernel
theorem dX9_fewest_273 : decode cX9_fewest 273 = .ok (.goto (-263), 3) := by decide +kernel
theorem dX9_fewest_276 : decode cX9_fewest 276 = .ok (.iload_n 3, 1) := by decide +kernel
theorem dX9_fewest_277 : decode cX9_fewest 277 = .ok (.ireturn, 1) := by decide +kernel
theorem dX9_teach_0 : decode cX9_teach 0 = .ok (.iload_n 1, 1) := by decide +kernel
theorem dX9_teach_1 : decode cX9_teach 1 = .ok (.iconst 1, 1) := by decide +kernel
theorem dX9_teach_2 : decode cX9_teach 2 = .ok (.bipush 60, 2) := by decide +kernel
theorem dX9_teach_4 : decode cX9_teach 4 = .ok (.invokestatic 45, 3) := by decide +kernel
theorem dX9_teach_7 : decode cX9_teach 7 = .ok (.ifCond .eq 12, 3) := by decide +kernel
theorem dX9_teach_10 : decode cX9_teach 10 = .ok (.aload_n 0, 1) := by decide +kernel
theorem dX9_teach_11 : decode cX9_teach 11 = .ok (.iload_n 1, 1) := by decide +kernel
theorem dX9_teach_12 : decode cX9_teach 12 = .ok (.iconst 0, 1) := by decide +kernel
theorem dX9_teach_13 : decode cX9_teach 13 = .ok (.invokevirtual 150, 3) := by decide +kernel
theorem dX9_teach_16 : decode cX9_teach 16 = .ok (.goto 4, 3) := by decide +kernel
theorem dX9_teach_19 : decode cX9_teach 19 = .ok (.iconst (-1), 1) := by decide +kernel
theorem dX9_teach_20 : decode cX9_teach 20 = .ok (.ireturn, 1) := by decide +kernel
theorem dX9_burn_0 : decode cX9_burn 0 = .ok (.iload_n 1, 1) := by decide +kernel
theorem dX9_burn_1 : decode cX9_burn 1 = .ok (.iconst 1, 1) := by decide +kernel
theorem dX9_burn_2 : decode cX9_burn 2 = .ok (.bipush 60, 2) := by decide +kernel
theorem dX9_burn_4 : decode cX9_burn 4 = .ok (.invokestatic 45, 3) := by decide +kernel
theorem dX9_burn_7 : decode cX9_burn 7 = .ok (.ifCond .eq 12, 3) := by decide +kernel
theorem dX9_burn_10 : decode cX9_burn 10 = .ok (.aload_n 0, 1) := by decide +kernel
theorem dX9_burn_11 : decode cX9_burn 11 = .ok (.iload_n 1, 1) := by decide +kernel
theorem dX9_burn_12 : decode cX9_burn 12 = .ok (.iconst 1, 1) := by decide +kernel
theorem dX9_burn_13 : decode cX9_burn 13 = .ok (.invokevirtual 150, 3) := by decide +kernel
theorem dX9_burn_16 : decode cX9_burn 16 = .ok (.goto 4, 3) := by decide +kernel
theorem dX9_burn_19 : decode cX9_burn 19 = .ok (.iconst (-1), 1) := by decide +kernel
theorem dX9_burn_20 : decode cX9_burn 20 = .ok (.ireturn, 1) := by decide +kernel
theorem dX9_stair_0 : decode cX9_stair 0 = .ok (.iload_n 1, 1) := by decide +kernel
theorem dX9_stair_1 : decode cX9_stair 1 = .ok (.iconst 1, 1) := by decide +kernel
theorem dX9_stair_2 : decode cX9_stair 2 = .ok (.bipush 60, 2) := by decide +kernel
theorem dX9_stair_4 : decode cX9_stair 4 = .ok (.invokestatic 45, 3) := by decide +kernel
theorem dX9_stair_7 : decode cX9_stair 7 = .ok (.ifCond .ne 5, 3) := by decide +kernel
theorem dX9_stair_10 : decode cX9_stair 10 = .ok (.iconst (-1), 1) := by decide +kernel
theorem dX9_stair_11 : decode cX9_stair 11 = .ok (.ireturn, 1) := by decide +kernel
theorem dX9_stair_12 : decode cX9_stair 12 = .ok (.aload_n 0, 1) := by decide +kernel
theorem dX9_stair_13 : decode cX9_stair 13 = .ok (.invokevirtual 141, 3) := by decide +kernel
theorem dX9_stair_16 : decode cX9_stair 16 = .ok (.bipush (-9), 2) := by decide +kernel
theorem dX9_stair_18 : decode cX9_stair 18 = .ok (.istore_n 2, 1) := by decide +kernel
theorem dX9_stair_19 : decode cX9_stair 19 = .ok (.iconst 1, 1) := by decide +kernel
theorem dX9_stair_20 : decode cX9_stair 20 = .ok (.istore_n 3, 1) := by decide +kernel
theorem dX9_stair_21 : decode cX9_stair 21 = .ok (.iload_n 3, 1) := by decide +kernel
theorem dX9_stair_22 : decode cX9_stair 22 = .ok (.bipush 9, 2) := by decide +kernel
theorem dX9_stair_24 : decode cX9_stair 24 = .ok (.if_icmp .ge 38, 3) := by decide +kernel
theorem dX9_stair_27 : decode cX9_stair 27 = .ok (.aload_n 0, 1) := by decide +kernel
theorem dX9_stair_28 : decode cX9_stair 28 = .ok (.iload_n 3, 1) := by decide +kernel
theorem dX9_stair_29 : decode cX9_stair 29 = .ok (.putfield 104, 3) := by decide +kernel
theorem dX9_stair_32 : decode cX9_stair 32 = .ok (.aload_n 0, 1) := by decide +kernel
theorem dX9_stair_33 : decode cX9_stair 33 = .ok (.iload_n 1, 1) := by decide +kernel
theorem dX9_stair_34 : decode cX9_stair 34 = .ok (.invokevirtual 147, 3) := by decide +kernel
theorem dX9_stair_37 : decode cX9_stair 37 = .ok (.aload_n 0, 1) := by decide +kernel
theorem dX9_stair_38 : decode cX9_stair 38 = .ok (.getfield 13, 3) := by decide +kernel
theorem dX9_stair_41 : decode cX9_stair 41 = .ok (.iconst 3, 1) := by decide +kernel
theorem dX9_stair_42 : decode cX9_stair 42 = .ok (.iaload, 1) := by decide +kernel
theorem dX9_stair_43 : decode cX9_stair 43 = .ok (.if_icmp .gt 7, 3) := by decide +kernel
theorem dX9_stair_46 : decode cX9_stair 46 = .ok (.iload_n 3, 1) := by decide +kernel
theorem dX9_stair_47 : decode cX9_stair 47 = .ok (.goto 4, 3) := by decide +kernel
theorem dX9_stair_50 : decode cX9_stair 50 = .ok (.iload_n 2, 1) := by decide +kernel
theorem dX9_stair_51 : decode cX9_stair 51 = .ok (.istore_n 2, 1) := by decide +kernel
theorem dX9_stair_52 : decode cX9_stair 52 = .ok (.aload_n 0, 1) := by decide +kernel
theorem dX9_stair_53 : decode cX9_stair 53 = .ok (.invokevirtual 144, 3) := by decide +kernel
theorem dX9_stair_56 : decode cX9_stair 56 = .ok (.iinc 3 1, 3) := by decide +kernel
theorem dX9_stair_59 : decode cX9_stair 59 = .ok (.goto (-38), 3) := by decide +kernel
theorem dX9_stair_62 : decode cX9_stair 62 = .ok (.iload_n 2, 1) := by decide +kernel
theorem dX9_stair_63 : decode cX9_stair 63 = .ok (.ireturn, 1) := by decide +kernel
theorem dX9_drain_0 : decode cX9_drain 0 = .ok (.iload_n 1, 1) := by decide +kernel
theorem dX9_drain_1 : decode cX9_drain 1 = .ok (.iconst 1, 1) := by decide +kernel
theorem dX9_drain_2 : decode cX9_drain 2 = .ok (.bipush 60, 2) := by decide +kernel
theorem dX9_drain_4 : decode cX9_drain 4 = .ok (.invokestatic 45, 3) := by decide +kernel
theorem dX9_drain_7 : decode cX9_drain 7 = .ok (.ifCond .ne 5, 3) := by decide +kernel
theorem dX9_drain_10 : decode cX9_drain 10 = .ok (.iconst (-1), 1) := by decide +kernel
theorem dX9_drain_11 : decode cX9_drain 11 = .ok (.ireturn, 1) := by decide +kernel
theorem dX9_drain_12 : decode cX9_drain 12 = .ok (.aload_n 0, 1) := by decide +kernel
theorem dX9_drain_13 : decode cX9_drain 13 = .ok (.invokevirtual 141, 3) := by decide +kernel
theorem dX9_drain_16 : decode cX9_drain 16 = .ok (.bipush (-9), 2) := by decide +kernel
theorem dX9_drain_18 : decode cX9_drain 18 = .ok (.istore_n 2, 1) := by decide +kernel
theorem dX9_drain_19 : decode cX9_drain 19 = .ok (.bipush 20, 2) := by decide +kernel
theorem dX9_drain_21 : decode cX9_drain 21 = .ok (.istore_n 3, 1) := by decide +kernel
theorem dX9_drain_22 : decode cX9_drain 22 = .ok (.iload_n 3, 1) := by decide +kernel
theorem dX9_drain_23 : decode cX9_drain 23 = .ok (.ifCond .lt 38, 3) := by decide +kernel
theorem dX9_drain_26 : decode cX9_drain 26 = .ok (.aload_n 0, 1) := by decide +kernel
theorem dX9_drain_27 : decode cX9_drain 27 = .ok (.iload_n 3, 1) := by decide +kernel
theorem dX9_drain_28 : decode cX9_drain 28 = .ok (.putfield 111, 3) := by decide +kernel
theorem dX9_drain_31 : decode cX9_drain 31 = .ok (.aload_n 0, 1) := by decide +kernel
theorem dX9_drain_32 : decode cX9_drain 32 = .ok (.iload_n 1, 1) := by decide +kernel
theorem dX9_drain_33 : decode cX9_drain 33 = .ok (.invokevirtual 147, 3) := by decide +kernel
theorem dX9_drain_36 : decode cX9_drain 36 = .ok (.aload_n 0, 1) := by decide +kernel
theorem dX9_drain_37 : decode cX9_drain 37 = .ok (.getfield 13, 3) := by decide +kernel
theorem dX9_drain_40 : decode cX9_drain 40 = .ok (.iconst 3, 1) := by decide +kernel
theorem dX9_drain_41 : decode cX9_drain 41 = .ok (.iaload, 1) := by decide +kernel
theorem dX9_drain_42 : decode cX9_drain 42 = .ok (.if_icmp .gt 7, 3) := by decide +kernel
theorem dX9_drain_45 : decode cX9_drain 45 = .ok (.iload_n 3, 1) := by decide +kernel
theorem dX9_drain_46 : decode cX9_drain 46 = .ok (.goto 4, 3) := by decide +kernel
theorem dX9_drain_49 : decode cX9_drain 49 = .ok (.iload_n 2, 1) := by decide +kernel
theorem dX9_drain_50 : decode cX9_drain 50 = .ok (.istore_n 2, 1) := by decide +kernel
theorem dX9_drain_51 : decode cX9_drain 51 = .ok (.aload_n 0, 1) := by decide +kernel
theorem dX9_drain_52 : decode cX9_drain 52 = .ok (.invokevirtual 144, 3) := by decide +kernel
theorem dX9_drain_55 : decode cX9_drain 55 = .ok (.iinc 3 (-1), 3) := by decide +kernel
theorem dX9_drain_58 : decode cX9_drain 58 = .ok (.goto (-36), 3) := by decide +kernel
theorem dX9_drain_61 : decode cX9_drain 61 = .ok (.iload_n 2, 1) := by decide +kernel
theorem dX9_drain_62 : decode cX9_drain 62 = .ok (.ireturn, 1) := by decide +kernel
theorem dX9_common_0 : decode cX9_common 0 = .ok (.lload_n 0, 1) := by decide +kernel
theorem dX9_common_1 : decode cX9_common 1 = .ok (.lconst 0, 1) := by decide +kernel
theorem dX9_common_2 : decode cX9_common 2 = .ok (.lcmp, 1) := by decide +kernel
theorem dX9_common_3 : decode cX9_common 3 = .ok (.ifCond .ge 8, 3) := by decide +kernel
theorem dX9_common_6 : decode cX9_common 6 = .ok (.lload_n 0, 1) := by decide +kernel
theorem dX9_common_7 : decode cX9_common 7 = .ok (.lneg, 1) := by decide +kernel
theorem dX9_common_8 : decode cX9_common 8 = .ok (.goto 4, 3) := by decide +kernel
theorem dX9_common_11 : decode cX9_common 11 = .ok (.lload_n 0, 1) := by decide +kernel
theorem dX9_common_12 : decode cX9_common 12 = .ok (.lstore 4, 2) := by decide +kernel
theorem dX9_common_14 : decode cX9_common 14 = .ok (.lload_n 2, 1) := by decide +kernel
theorem dX9_common_15 : decode cX9_common 15 = .ok (.lstore 6, 2) := by decide +kernel
theorem dX9_common_17 : decode cX9_common 17 = .ok (.lload 6, 2) := by decide +kernel
theorem dX9_common_19 : decode cX9_common 19 = .ok (.lconst 0, 1) := by decide +kernel
theorem dX9_common_20 : decode cX9_common 20 = .ok (.lcmp, 1) := by decide +kernel
theorem dX9_common_21 : decode cX9_common 21 = .ok (.ifCond .le 21, 3) := by decide +kernel
theorem dX9_common_24 : decode cX9_common 24 = .ok (.lload 4, 2) := by decide +kernel
theorem dX9_common_26 : decode cX9_common 26 = .ok (.lload 6, 2) := by decide +kernel
theorem dX9_common_28 : decode cX9_common 28 = .ok (.lrem, 1) := by decide +kernel
theorem dX9_common_29 : decode cX9_common 29 = .ok (.lstore 8, 2) := by decide +kernel
theorem dX9_common_31 : decode cX9_common 31 = .ok (.lload 6, 2) := by decide +kernel
theorem dX9_common_33 : decode cX9_common 33 = .ok (.lstore 4, 2) := by decide +kernel
theorem dX9_common_35 : decode cX9_common 35 = .ok (.lload 8, 2) := by decide +kernel
theorem dX9_common_37 : decode cX9_common 37 = .ok (.lstore 6, 2) := by decide +kernel
theorem dX9_common_39 : decode cX9_common 39 = .ok (.goto (-22), 3) := by decide +kernel
theorem dX9_common_42 : decode cX9_common 42 = .ok (.lload 4, 2) := by decide +kernel
theorem dX9_common_44 : decode cX9_common 44 = .ok (.lreturn, 1) := by decide +kernel
theorem dX9_flow_0 : decode cX9_flow 0 = .ok (.iload_n 1, 1) := by decide +kernel
theorem dX9_flow_1 : decode cX9_flow 1 = .ok (.iconst 0, 1) := by decide +kernel
theorem dX9_flow_2 : decode cX9_flow 2 = .ok (.iconst 1, 1) := by decide +kernel
theorem dX9_flow_3 : decode cX9_flow 3 = .ok (.invokestatic 45, 3) := by decide +kernel
theorem dX9_flow_6 : decode cX9_flow 6 = .ok (.ifCond .ne 7, 3) := by decide +kernel
theorem dX9_flow_9 : decode cX9_flow 9 = .ok (.ldc2_w 154, 3) := by decide +kernel
theorem dX9_flow_12 : decode cX9_flow 12 = .ok (.lreturn, 1) := by decide +kernel
theorem dX9_flow_13 : decode cX9_flow 13 = .ok (.lconst 0, 1) := by decide +kernel
theorem dX9_flow_14 : decode cX9_flow 14 = .ok (.lstore_n 2, 1) := by decide +kernel
theorem dX9_flow_15 : decode cX9_flow 15 = .ok (.lconst 1, 1) := by decide +kernel
theorem dX9_flow_16 : decode cX9_flow 16 = .ok (.lstore 4, 2) := by decide +kernel
theorem dX9_flow_18 : decode cX9_flow 18 = .ok (.iconst 0, 1) := by decide +kernel
theorem dX9_flow_19 : decode cX9_flow 19 = .ok (.istore 6, 2) := by decide +kernel
theorem dX9_flow_21 : decode cX9_flow 21 = .ok (.iload 6, 2) := by decide +kernel
theorem dX9_flow_23 : decode cX9_flow 23 = .ok (.bipush 8, 2) := by decide +kernel
theorem dX9_flow_25 : decode cX9_flow 25 = .ok (.if_icmp .ge 121, 3) := by decide +kernel
theorem dX9_flow_28 : decode cX9_flow 28 = .ok (.aload_n 0, 1) := by decide +kernel
theorem dX9_flow_29 : decode cX9_flow 29 = .ok (.getfield 19, 3) := by decide +kernel
theorem dX9_flow_32 : decode cX9_flow 32 = .ok (.bipush 51, 2) := by decide +kernel
theorem dX9_flow_34 : decode cX9_flow 34 = .ok (.iload 6, 2) := by decide +kernel
theorem dX9_flow_36 : decode cX9_flow 36 = .ok (.iadd, 1) := by decide +kernel
theorem dX9_flow_37 : decode cX9_flow 37 = .ok (.iaload, 1) := by decide +kernel
theorem dX9_flow_38 : decode cX9_flow 38 = .ok (.iconst 1, 1) := by decide +kernel
theorem dX9_flow_39 : decode cX9_flow 39 = .ok (.if_icmp .ne 101, 3) := by decide +kernel
theorem dX9_flow_42 : decode cX9_flow 42 = .ok (.aload_n 0, 1) := by decide +kernel
theorem dX9_flow_43 : decode cX9_flow 43 = .ok (.getfield 19, 3) := by decide +kernel
theorem dX9_flow_46 : decode cX9_flow 46 = .ok (.bipush 11, 2) := by decide +kernel
theorem dX9_flow_48 : decode cX9_flow 48 = .ok (.iload 6, 2) := by decide +kernel
theorem dX9_flow_50 : decode cX9_flow 50 = .ok (.iadd, 1) := by decide +kernel
theorem dX9_flow_51 : decode cX9_flow 51 = .ok (.iaload, 1) := by decide +kernel
theorem dX9_flow_52 : decode cX9_flow 52 = .ok (.i2l, 1) := by decide +kernel
theorem dX9_flow_53 : decode cX9_flow 53 = .ok (.lstore 7, 2) := by decide +kernel
theorem dX9_flow_55 : decode cX9_flow 55 = .ok (.lload 4, 2) := by decide +kernel
theorem dX9_flow_57 : decode cX9_flow 57 = .ok (.lload 4, 2) := by decide +kernel
theorem dX9_flow_59 : decode cX9_flow 59 = .ok (.lload 7, 2) := by decide +kernel
theorem dX9_flow_61 : decode cX9_flow 61 = .ok (.invokestatic 156, 3) := by decide +kernel
theorem dX9_flow_64 : decode cX9_flow 64 = .ok (.ldiv, 1) := by decide +kernel
theorem dX9_flow_65 : decode cX9_flow 65 = .ok (.lload 7, 2) := by decide +kernel
theorem dX9_flow_67 : decode cX9_flow 67 = .ok (.lmul, 1) := by decide +kernel
theorem dX9_flow_68 : decode cX9_flow 68 = .ok (.lstore 9, 2) := by decide +kernel
theorem dX9_flow_70 : decode cX9_flow 70 = .ok (.lload_n 2, 1) := by decide +kernel
theorem dX9_flow_71 : decode cX9_flow 71 = .ok (.lload 9, 2) := by decide +kernel
theorem dX9_flow_73 : decode cX9_flow 73 = .ok (.lload 4, 2) := by decide +kernel
theorem dX9_flow_75 : decode cX9_flow 75 = .ok (.ldiv, 1) := by decide +kernel
theorem dX9_flow_76 : decode cX9_flow 76 = .ok (.lmul, 1) := by decide +kernel
theorem dX9_flow_77 : decode cX9_flow 77 = .ok (.aload_n 0, 1) := by decide +kernel
theorem dX9_flow_78 : decode cX9_flow 78 = .ok (.getfield 19, 3) := by decide +kernel
theorem dX9_flow_81 : decode cX9_flow 81 = .ok (.bipush 27, 2) := by decide +kernel
theorem dX9_flow_83 : decode cX9_flow 83 = .ok (.iload 6, 2) := by decide +kernel
theorem dX9_flow_85 : decode cX9_flow 85 = .ok (.iadd, 1) := by decide +kernel
theorem dX9_flow_86 : decode cX9_flow 86 = .ok (.iaload, 1) := by decide +kernel
theorem dX9_flow_87 : decode cX9_flow 87 = .ok (.iconst 1, 1) := by decide +kernel
theorem dX9_flow_88 : decode cX9_flow 88 = .ok (.if_icmp .ne 13, 3) := by decide +kernel
theorem dX9_flow_91 : decode cX9_flow 91 = .ok (.aload_n 0, 1) := by decide +kernel
theorem dX9_flow_92 : decode cX9_flow 92 = .ok (.iload 6, 2) := by decide +kernel
theorem dX9_flow_94 : decode cX9_flow 94 = .ok (.invokevirtual 107, 3) := by decide +kernel
theorem dX9_flow_97 : decode cX9_flow 97 = .ok (.ineg, 1) := by decide +kernel
theorem dX9_flow_98 : decode cX9_flow 98 = .ok (.goto 9, 3) := by decide +kernel
theorem dX9_flow_101 : decode cX9_flow 101 = .ok (.aload_n 0, 1) := by decide +kernel
theorem dX9_flow_102 : decode cX9_flow 102 = .ok (.iload 6, 2) := by decide +kernel
theorem dX9_flow_104 : decode cX9_flow 104 = .ok (.invokevirtual 107, 3) := by decide +kernel
theorem dX9_flow_107 : decode cX9_flow 107 = .ok (.i2l, 1) := by decide +kernel
theorem dX9_flow_108 : decode cX9_flow 108 = .ok (.lload 9, 2) := by decide +kernel
theorem dX9_flow_110 : decode cX9_flow 110 = .ok (.lload 7, 2) := by decide +kernel
theorem dX9_flow_112 : decode cX9_flow 112 = .ok (.ldiv, 1) := by decide +kernel
theorem dX9_flow_113 : decode cX9_flow 113 = .ok (.lmul, 1) := by decide +kernel
theorem dX9_flow_114 : decode cX9_flow 114 = .ok (.ladd, 1) := by decide +kernel
theorem dX9_flow_115 : decode cX9_flow 115 = .ok (.lstore_n 2, 1) := by decide +kernel
theorem dX9_flow_116 : decode cX9_flow 116 = .ok (.lload 9, 2) := by decide +kernel
theorem dX9_flow_118 : decode cX9_flow 118 = .ok (.lstore 4, 2) := by decide +kernel
theorem dX9_flow_120 : decode cX9_flow 120 = .ok (.lload_n 2, 1) := by decide +kernel
theorem dX9_flow_121 : decode cX9_flow 121 = .ok (.lload 4, 2) := by decide +kernel
theorem dX9_flow_123 : decode cX9_flow 123 = .ok (.invokestatic 156, 3) := by decide +kernel
theorem dX9_flow_126 : decode cX9_flow 126 = .ok (.lstore 11, 2) := by decide +kernel
theorem dX9_flow_128 : decode cX9_flow 128 = .ok (.lload_n 2, 1) := by decide +kernel
theorem dX9_flow_129 : decode cX9_flow 129 = .ok (.lload 11, 2) := by decide +kernel
theorem dX9_flow_131 : decode cX9_flow 131 = .ok (.ldiv, 1) := by decide +kernel
theorem dX9_flow_132 : decode cX9_flow 132 = .ok (.lstore_n 2, 1) := by decide +kernel
theorem dX9_flow_133 : decode cX9_flow 133 = .ok (.lload 4, 2) := by decide +kernel
theorem dX9_flow_135 : decode cX9_flow 135 = .ok (.lload 11, 2) := by decide +kernel
theorem dX9_flow_137 : decode cX9_flow 137 = .ok (.ldiv, 1) := by decide +kernel
theorem dX9_flow_138 : decode cX9_flow 138 = .ok (.lstore 4, 2) := by decide +kernel
theorem dX9_flow_140 : decode cX9_flow 140 = .ok (.iinc 6 1, 3) := by decide +kernel
theorem dX9_flow_143 : decode cX9_flow 143 = .ok (.goto (-122), 3) := by decide +kernel
theorem dX9_flow_146 : decode cX9_flow 146 = .ok (.iload_n 1, 1) := by decide +kernel
theorem dX9_flow_147 : decode cX9_flow 147 = .ok (.ifCond .ne 7, 3) := by decide +kernel
theorem dX9_flow_150 : decode cX9_flow 150 = .ok (.lload_n 2, 1) := by decide +kernel
theorem dX9_flow_151 : decode cX9_flow 151 = .ok (.goto 5, 3) := by decide +kernel
theorem dX9_flow_154 : decode cX9_flow 154 = .ok (.lload 4, 2) := by decide +kernel
theorem dX9_flow_156 : decode cX9_flow 156 = .ok (.lreturn, 1) := by decide +kernel
theorem dX9_splitOn_0 : decode cX9_splitOn 0 = .ok (.aload_n 0, 1) := by decide +kernel
theorem dX9_splitOn_1 : decode cX9_splitOn 1 = .ok (.iload_n 1, 1) := by decide +kernel
theorem dX9_splitOn_2 : decode cX9_splitOn 2 = .ok (.invokevirtual 129, 3) := by decide +kernel
theorem dX9_splitOn_5 : decode cX9_splitOn 5 = .ok (.ifCond .eq 22, 3) := by decide +kernel
theorem dX9_splitOn_8 : decode cX9_splitOn 8 = .ok (.iload_n 2, 1) := by decide +kernel
theorem dX9_splitOn_9 : decode cX9_splitOn 9 = .ok (.iconst 0, 1) := by decide +kernel
theorem dX9_splitOn_10 : decode cX9_splitOn 10 = .ok (.bipush 6, 2) := by decide +kernel
theorem dX9_splitOn_12 : decode cX9_splitOn 12 = .ok (.invokestatic 45, 3) := by decide +kernel
theorem dX9_splitOn_15 : decode cX9_splitOn 15 = .ok (.ifCond .eq 12, 3) := by decide +kernel
theorem dX9_splitOn_18 : decode cX9_splitOn 18 = .ok (.iload_n 3, 1) := by decide +kernel
theorem dX9_splitOn_19 : decode cX9_splitOn 19 = .ok (.iconst 0, 1) := by decide +kernel
theorem dX9_splitOn_20 : decode cX9_splitOn 20 = .ok (.iconst 1, 1) := by decide +kernel
theorem dX9_splitOn_21 : decode cX9_splitOn 21 = .ok (.invokestatic 45, 3) := by decide +kernel
theorem dX9_splitOn_24 : decode cX9_splitOn 24 = .ok (.ifCond .ne 5, 3) := by decide +kernel
theorem dX9_splitOn_27 : decode cX9_splitOn 27 = .ok (.iconst (-1), 1) := by decide +kernel
theorem dX9_splitOn_28 : decode cX9_splitOn 28 = .ok (.ireturn, 1) := by decide +kernel
theorem dX9_splitOn_29 : decode cX9_splitOn 29 = .ok (.aload_n 0, 1) := by decide +kernel
theorem dX9_splitOn_30 : decode cX9_splitOn 30 = .ok (.getfield 19, 3) := by decide +kernel
theorem dX9_splitOn_33 : decode cX9_splitOn 33 = .ok (.iconst 3, 1) := by decide +kernel
theorem dX9_splitOn_34 : decode cX9_splitOn 34 = .ok (.iload_n 1, 1) := by decide +kernel
theorem dX9_splitOn_35 : decode cX9_splitOn 35 = .ok (.iadd, 1) := by decide +kernel
theorem dX9_splitOn_36 : decode cX9_splitOn 36 = .ok (.iaload, 1) := by decide +kernel
theorem dX9_splitOn_37 : decode cX9_splitOn 37 = .ok (.iload_n 2, 1) := by decide +kernel
theorem dX9_splitOn_38 : decode cX9_splitOn 38 = .ok (.ishr, 1) := by decide +kernel
theorem dX9_splitOn_39 : decode cX9_splitOn 39 = .ok (.istore 4, 2) := by decide +kernel
theorem dX9_splitOn_41 : decode cX9_splitOn 41 = .ok (.iload 4, 2) := by decide +kernel
theorem dX9_splitOn_43 : decode cX9_splitOn 43 = .ok (.ifCond .ne 7, 3) := by decide +kernel
theorem dX9_splitOn_46 : decode cX9_splitOn 46 = .ok (.iconst 0, 1) := by decide +kernel
theorem dX9_splitOn_47 : decode cX9_splitOn 47 = .ok (.goto 6, 3) := by decide +kernel
theorem dX9_splitOn_50 : decode cX9_splitOn 50 = .ok (.iconst 1, 1) := by decide +kernel
theorem dX9_splitOn_51 : decode cX9_splitOn 51 = .ok (.iload_n 2, 1) := by decide +kernel
theorem dX9_splitOn_52 : decode cX9_splitOn 52 = .ok (.ishl, 1) := by decide +kernel
theorem dX9_splitOn_53 : decode cX9_splitOn 53 = .ok (.istore 5, 2) := by decide +kernel
theorem dX9_splitOn_55 : decode cX9_splitOn 55 = .ok (.iload_n 3, 1) := by decide +kernel
theorem dX9_splitOn_56 : decode cX9_splitOn 56 = .ok (.ifCond .ne 8, 3) := by decide +kernel
theorem dX9_splitOn_59 : decode cX9_splitOn 59 = .ok (.iload 5, 2) := by decide +kernel
theorem dX9_splitOn_61 : decode cX9_splitOn 61 = .ok (.goto 8, 3) := by decide +kernel
theorem dX9_splitOn_64 : decode cX9_splitOn 64 = .ok (.iload 5, 2) := by decide +kernel
theorem dX9_splitOn_66 : decode cX9_splitOn 66 = .ok (.iload 4, 2) := by decide +kernel
theorem dX9_splitOn_68 : decode cX9_splitOn 68 = .ok (.imul, 1) := by decide +kernel
theorem dX9_splitOn_69 : decode cX9_splitOn 69 = .ok (.ireturn, 1) := by decide +kernel
theorem dX9_price_0 : decode cX9_price 0 = .ok (.iload_n 1, 1) := by decide +kernel
theorem dX9_price_1 : decode cX9_price 1 = .ok (.iconst 1, 1) := by decide +kernel
theorem dX9_price_2 : decode cX9_price 2 = .ok (.bipush 9, 2) := by decide +kernel
theorem dX9_price_4 : decode cX9_price 4 = .ok (.invokestatic 45, 3) := by decide +kernel
theorem dX9_price_7 : decode cX9_price 7 = .ok (.ifCond .eq 14, 3) := by decide +kernel
theorem dX9_price_10 : decode cX9_price 10 = .ok (.iload_n 2, 1) := by decide +kernel
theorem dX9_price_11 : decode cX9_price 11 = .ok (.iconst 0, 1) := by decide +kernel
theorem dX9_price_12 : decode cX9_price 12 = .ok (.sipush 200, 3) := by decide +kernel
theorem dX9_price_15 : decode cX9_price 15 = .ok (.invokestatic 45, 3) := by decide +kernel
theorem dX9_price_18 : decode cX9_price 18 = .ok (.ifCond .ne 5, 3) := by decide +kernel
theorem dX9_price_21 : decode cX9_price 21 = .ok (.iconst (-1), 1) := by decide +kernel
theorem dX9_price_22 : decode cX9_price 22 = .ok (.ireturn, 1) := by decide +kernel
theorem dX9_price_23 : decode cX9_price 23 = .ok (.aload_n 0, 1) := by decide +kernel
theorem dX9_price_24 : decode cX9_price 24 = .ok (.invokevirtual 141, 3) := by decide +kernel
theorem dX9_price_27 : decode cX9_price 27 = .ok (.iconst 0, 1) := by decide +kernel
theorem dX9_price_28 : decode cX9_price 28 = .ok (.istore_n 3, 1) := by decide +kernel
theorem dX9_price_29 : decode cX9_price 29 = .ok (.iconst 0, 1) := by decide +kernel
theorem dX9_price_30 : decode cX9_price 30 = .ok (.istore 4, 2) := by decide +kernel
theorem dX9_price_32 : decode cX9_price 32 = .ok (.iload 4, 2) := by decide +kernel
theorem dX9_price_34 : decode cX9_price 34 = .ok (.iload_n 2, 1) := by decide +kernel
theorem dX9_price_35 : decode cX9_price 35 = .ok (.if_icmp .ge 21, 3) := by decide +kernel
theorem dX9_price_38 : decode cX9_price 38 = .ok (.aload_n 0, 1) := by decide +kernel
theorem dX9_price_39 : decode cX9_price 39 = .ok (.invokevirtual 123, 3) := by decide +kernel
theorem dX9_price_42 : decode cX9_price 42 = .ok (.pop, 1) := by decide +kernel
theorem dX9_price_43 : decode cX9_price 43 = .ok (.iload_n 3, 1) := by decide +kernel
theorem dX9_price_44 : decode cX9_price 44 = .ok (.aload_n 0, 1) := by decide +kernel
theorem dX9_price_45 : decode cX9_price 45 = .ok (.getfield 114, 3) := by decide +kernel
theorem dX9_price_48 : decode cX9_price 48 = .ok (.iadd, 1) := by decide +kernel
theorem dX9_price_49 : decode cX9_price 49 = .ok (.istore_n 3, 1) := by decide +kernel
theorem dX9_price_50 : decode cX9_price 50 = .ok (.iinc 4 1, 3) := by decide +kernel
theorem dX9_price_53 : decode cX9_price 53 = .ok (.goto (-21), 3) := by decide +kernel
theorem dX9_price_56 : decode cX9_price 56 = .ok (.aload_n 0, 1) := by decide +kernel
theorem dX9_price_57 : decode cX9_price 57 = .ok (.invokevirtual 144, 3) := by decide +kernel
theorem dX9_price_60 : decode cX9_price 60 = .ok (.iload_n 1, 1) := by decide +kernel
theorem dX9_price_61 : decode cX9_price 61 = .ok (.iload_n 3, 1) := by decide +kernel
theorem dX9_price_62 : decode cX9_price 62 = .ok (.imul, 1) := by decide +kernel
theorem dX9_price_63 : decode cX9_price 63 = .ok (.ireturn, 1) := by decide +kernel
theorem dX9_heard_0 : decode cX9_heard 0 = .ok (.aload_n 0, 1) := by decide +kernel
theorem dX9_heard_1 : decode cX9_heard 1 = .ok (.iload_n 1, 1) := by decide +kernel
theorem dX9_heard_2 : decode cX9_heard 2 = .ok (.invokevirtual 129, 3) := by decide +kernel
theorem dX9_heard_5 : decode cX9_heard 5 = .ok (.ifCond .ne 5, 3) := by decide +kernel
theorem dX9_heard_8 : decode cX9_heard 8 = .ok (.iconst (-1), 1) := by decide +kernel
theorem dX9_heard_9 : decode cX9_heard 9 = .ok (.ireturn, 1) := by decide +kernel
theorem dX9_heard_10 : decode cX9_heard 10 = .ok (.aload_n 0, 1) := by decide +kernel
theorem dX9_heard_11 : decode cX9_heard 11 = .ok (.invokevirtual 141, 3) := by decide +kernel
theorem dX9_heard_14 : decode cX9_heard 14 = .ok (.aload_n 0, 1) := by decide +kernel
theorem dX9_heard_15 : decode cX9_heard 15 = .ok (.invokevirtual 101, 3) := by decide +kernel
theorem dX9_heard_18 : decode cX9_heard 18 = .ok (.istore_n 2, 1) := by decide +kernel
theorem dX9_heard_19 : decode cX9_heard 19 = .ok (.iconst 1, 1) := by decide +kernel
theorem dX9_heard_20 : decode cX9_heard 20 = .ok (.iload_n 1, 1) := by decide +kernel
theorem dX9_heard_21 : decode cX9_heard 21 = .ok (.ishl, 1) := by decide +kernel
theorem dX9_heard_22 : decode cX9_heard 22 = .ok (.istore_n 3, 1) := by decide +kernel
theorem dX9_heard_23 : decode cX9_heard 23 = .ok (.iconst 0, 1) := by decide +kernel
theorem dX9_heard_24 : decode cX9_heard 24 = .ok (.istore 4, 2) := by decide +kernel
theorem dX9_heard_26 : decode cX9_heard 26 = .ok (.iload_n 3, 1) := by decide +kernel
theorem dX9_heard_27 : decode cX9_heard 27 = .ok (.iload_n 2, 1) := by decide +kernel
theorem dX9_heard_28 : decode cX9_heard 28 = .ok (.if_icmp .eq 39, 3) := by decide +kernel
theorem dX9_heard_31 : decode cX9_heard 31 = .ok (.iload 4, 2) := by decide +kernel
theorem dX9_heard_33 : decode cX9_heard 33 = .ok (.sipush 200, 3) := by decide +kernel
theorem dX9_heard_36 : decode cX9_heard 36 = .ok (.if_icmp .ge 31, 3) := by decide +kernel
theorem dX9_heard_39 : decode cX9_heard 39 = .ok (.aload_n 0, 1) := by decide +kernel
theorem dX9_heard_40 : decode cX9_heard 40 = .ok (.invokevirtual 123, 3) := by decide +kernel
theorem dX9_heard_43 : decode cX9_heard 43 = .ok (.istore 5, 2) := by decide +kernel
theorem dX9_heard_45 : decode cX9_heard 45 = .ok (.iload_n 3, 1) := by decide +kernel
theorem dX9_heard_46 : decode cX9_heard 46 = .ok (.iload 5, 2) := by decide +kernel
theorem dX9_heard_48 : decode cX9_heard 48 = .ok (.iload_n 3, 1) := by decide +kernel
theorem dX9_heard_49 : decode cX9_heard 49 = .ok (.iand, 1) := by decide +kernel
theorem dX9_heard_50 : decode cX9_heard 50 = .ok (.ifCond .eq 8, 3) := by decide +kernel
theorem dX9_heard_53 : decode cX9_heard 53 = .ok (.iload 5, 2) := by decide +kernel
theorem dX9_heard_55 : decode cX9_heard 55 = .ok (.goto 4, 3) := by decide +kernel
theorem dX9_heard_58 : decode cX9_heard 58 = .ok (.iconst 0, 1) := by decide +kernel
theorem dX9_heard_59 : decode cX9_heard 59 = .ok (.ior, 1) := by decide +kernel
theorem dX9_heard_60 : decode cX9_heard 60 = .ok (.istore_n 3, 1) := by decide +kernel
theorem dX9_heard_61 : decode cX9_heard 61 = .ok (.iinc 4 1, 3) := by decide +kernel
theorem dX9_heard_64 : decode cX9_heard 64 = .ok (.goto (-38), 3) := by decide +kernel
theorem dX9_heard_67 : decode cX9_heard 67 = .ok (.aload_n 0, 1) := by decide +kernel
theorem dX9_heard_68 : decode cX9_heard 68 = .ok (.invokevirtual 144, 3) := by decide +kernel
theorem dX9_heard_71 : decode cX9_heard 71 = .ok (.iload_n 3, 1) := by decide +kernel
theorem dX9_heard_72 : decode cX9_heard 72 = .ok (.iload_n 2, 1) := by decide +kernel
theorem dX9_heard_73 : decode cX9_heard 73 = .ok (.if_icmp .ne 8, 3) := by decide +kernel
theorem dX9_heard_76 : decode cX9_heard 76 = .ok (.iload 4, 2) := by decide +kernel
theorem dX9_heard_78 : decode cX9_heard 78 = .ok (.goto 5, 3) := by decide +kernel
theorem dX9_heard_81 : decode cX9_heard 81 = .ok (.bipush (-9), 2) := by decide +kernel
theorem dX9_heard_83 : decode cX9_heard 83 = .ok (.ireturn, 1) := by decide +kernel
theorem dX9_measured_0 : decode cX9_measured 0 = .ok (.iload_n 1, 1) := by decide +kernel
theorem dX9_measured_1 : decode cX9_measured 1 = .ok (.iconst 0, 1) := by decide +kernel
theorem dX9_measured_2 : decode cX9_measured 2 = .ok (.bipush 40, 2) := by decide +kernel
theorem dX9_measured_4 : decode cX9_measured 4 = .ok (.invokestatic 45, 3) := by decide +kernel
theorem dX9_measured_7 : decode cX9_measured 7 = .ok (.ifCond .eq 13, 3) := by decide +kernel
theorem dX9_measured_10 : decode cX9_measured 10 = .ok (.iload_n 2, 1) := by decide +kernel
theorem dX9_measured_11 : decode cX9_measured 11 = .ok (.iconst 0, 1) := by decide +kernel
theorem dX9_measured_12 : decode cX9_measured 12 = .ok (.ldc 110, 2) := by decide +kernel
theorem dX9_measured_14 : decode cX9_measured 14 = .ok (.invokestatic 45, 3) := by decide +kernel
theorem dX9_measured_17 : decode cX9_measured 17 = .ok (.ifCond .ne 5, 3) := by decide +kernel
theorem dX9_measured_20 : decode cX9_measured 20 = .ok (.iconst (-1), 1) := by decide +kernel
theorem dX9_measured_21 : decode cX9_measured 21 = .ok (.ireturn, 1) := by decide +kernel
theorem dX9_measured_22 : decode cX9_measured 22 = .ok (.aload_n 0, 1) := by decide +kernel
theorem dX9_measured_23 : decode cX9_measured 23 = .ok (.getfield 98, 3) := by decide +kernel
theorem dX9_measured_26 : decode cX9_measured 26 = .ok (.iconst 4, 1) := by decide +kernel
theorem dX9_measured_27 : decode cX9_measured 27 = .ok (.if_icmp .ne 6, 3) := by decide +kernel
theorem dX9_measured_30 : decode cX9_measured 30 = .ok (.bipush (-3), 2) := by decide +kernel
theorem dX9_measured_32 : decode cX9_measured 32 = .ok (.ireturn, 1) := by decide +kernel
theorem dX9_measured_33 : decode cX9_measured 33 = .ok (.aload_n 0, 1) := by decide +kernel
theorem dX9_measured_34 : decode cX9_measured 34 = .ok (.getfield 32, 3) := by decide +kernel
theorem dX9_measured_37 : decode cX9_measured 37 = .ok (.iconst 2, 1) := by decide +kernel
theorem dX9_measured_38 : decode cX9_measured 38 = .ok (.aload_n 0, 1) := by decide +kernel
theorem dX9_measured_39 : decode cX9_measured 39 = .ok (.getfield 98, 3) := by decide +kernel
theorem dX9_measured_42 : decode cX9_measured 42 = .ok (.imul, 1) := by decide +kernel
theorem dX9_measured_43 : decode cX9_measured 43 = .ok (.iload_n 1, 1) := by decide +kernel
theorem dX9_measured_44 : decode cX9_measured 44 = .ok (.iastore, 1) := by decide +kernel
theorem dX9_measured_45 : decode cX9_measured 45 = .ok (.aload_n 0, 1) := by decide +kernel
theorem dX9_measured_46 : decode cX9_measured 46 = .ok (.getfield 32, 3) := by decide +kernel
theorem dX9_measured_49 : decode cX9_measured 49 = .ok (.iconst 2, 1) := by decide +kernel
theorem dX9_measured_50 : decode cX9_measured 50 = .ok (.aload_n 0, 1) := by decide +kernel
theorem dX9_measured_51 : decode cX9_measured 51 = .ok (.getfield 98, 3) := by decide +kernel
theorem dX9_measured_54 : decode cX9_measured 54 = .ok (.imul, 1) := by decide +kernel
theorem dX9_measured_55 : decode cX9_measured 55 = .ok (.iconst 1, 1) := by decide +kernel
theorem dX9_measured_56 : decode cX9_measured 56 = .ok (.iadd, 1) := by decide +kernel
theorem dX9_measured_57 : decode cX9_measured 57 = .ok (.iload_n 2, 1) := by decide +kernel
theorem dX9_measured_58 : decode cX9_measured 58 = .ok (.iastore, 1) := by decide +kernel
theorem dX9_measured_59 : decode cX9_measured 59 = .ok (.aload_n 0, 1) := by decide +kernel
theorem dX9_measured_60 : decode cX9_measured 60 = .ok (.dup, 1) := by decide +kernel
theorem dX9_measured_61 : decode cX9_measured 61 = .ok (.getfield 98, 3) := by decide +kernel
theorem dX9_measured_64 : decode cX9_measured 64 = .ok (.iconst 1, 1) := by decide +kernel
theorem dX9_measured_65 : decode cX9_measured 65 = .ok (.iadd, 1) := by decide +kernel
theorem dX9_measured_66 : decode cX9_measured 66 = .ok (.putfield 98, 3) := by decide +kernel
theorem dX9_measured_69 : decode cX9_measured 69 = .ok (.aload_n 0, 1) := by decide +kernel
theorem dX9_measured_70 : decode cX9_measured 70 = .ok (.getfield 98, 3) := by decide +kernel
theorem dX9_measured_73 : decode cX9_measured 73 = .ok (.ireturn, 1) := by decide +kernel
theorem dX9_forget_0 : decode cX9_forget 0 = .ok (.aload_n 0, 1) := by decide +kernel
theorem dX9_forget_1 : decode cX9_forget 1 = .ok (.getfield 98, 3) := by decide +kernel
theorem dX9_forget_4 : decode cX9_forget 4 = .ok (.istore_n 1, 1) := by decide +kernel
theorem dX9_forget_5 : decode cX9_forget 5 = .ok (.aload_n 0, 1) := by decide +kernel
theorem dX9_forget_6 : decode cX9_forget 6 = .ok (.iconst 0, 1) := by decide +kernel
theorem dX9_forget_7 : decode cX9_forget 7 = .ok (.putfield 98, 3) := by decide +kernel
theorem dX9_forget_10 : decode cX9_forget 10 = .ok (.iload_n 1, 1) := by decide +kernel
theorem dX9_forget_11 : decode cX9_forget 11 = .ok (.ireturn, 1) := by decide +kernel
theorem dX9_isSo_0 : decode cX9_isSo 0 = .ok (.iconst 1, 1) := by decide +kernel
theorem dX9_isSo_1 : decode cX9_isSo 1 = .ok (.istore_n 1, 1) := by decide +kernel
theorem dX9_isSo_2 : decode cX9_isSo 2 = .ok (.iconst 0, 1) := by decide +kernel
theorem dX9_isSo_3 : decode cX9_isSo 3 = .ok (.istore_n 2, 1) := by decide +kernel
theorem dX9_isSo_4 : decode cX9_isSo 4 = .ok (.iload_n 2, 1) := by decide +kernel
theorem dX9_isSo_5 : decode cX9_isSo 5 = .ok (.bipush 41, 2) := by decide +kernel
theorem dX9_isSo_7 : decode cX9_isSo 7 = .ok (.if_icmp .ge 71, 3) := by decide +kernel
theorem dX9_isSo_10 : decode cX9_isSo 10 = .ok (.iconst 0, 1) := by decide +kernel
theorem dX9_isSo_11 : decode cX9_isSo 11 = .ok (.istore_n 3, 1) := by decide +kernel
theorem dX9_isSo_12 : decode cX9_isSo 12 = .ok (.iload_n 3, 1) := by decide +kernel
theorem dX9_isSo_13 : decode cX9_isSo 13 = .ok (.aload_n 0, 1) := by decide +kernel
theorem dX9_isSo_14 : decode cX9_isSo 14 = .ok (.getfield 98, 3) := by decide +kernel
theorem dX9_isSo_17 : decode cX9_isSo 17 = .ok (.if_icmp .ge 50, 3) := by decide +kernel
theorem dX9_isSo_20 : decode cX9_isSo 20 = .ok (.iload_n 1, 1) := by decide +kernel
theorem dX9_isSo_21 : decode cX9_isSo 21 = .ok (.ifCond .eq 38, 3) := by decide +kernel
theorem dX9_isSo_24 : decode cX9_isSo 24 = .ok (.aload_n 0, 1) := by decide +kernel
theorem dX9_isSo_25 : decode cX9_isSo 25 = .ok (.getfield 32, 3) := by decide +kernel
theorem dX9_isSo_28 : decode cX9_isSo 28 = .ok (.iconst 2, 1) := by decide +kernel
theorem dX9_isSo_29 : decode cX9_isSo 29 = .ok (.iload_n 3, 1) := by decide +kernel
theorem dX9_isSo_30 : decode cX9_isSo 30 = .ok (.imul, 1) := by decide +kernel
theorem dX9_isSo_31 : decode cX9_isSo 31 = .ok (.iaload, 1) := by decide +kernel
theorem dX9_isSo_32 : decode cX9_isSo 32 = .ok (.iload_n 2, 1) := by decide +kernel
theorem dX9_isSo_33 : decode cX9_isSo 33 = .ok (.if_icmp .ne 22, 3) := by decide +kernel
theorem dX9_isSo_36 : decode cX9_isSo 36 = .ok (.aload_n 0, 1) := by decide +kernel
theorem dX9_isSo_37 : decode cX9_isSo 37 = .ok (.getfield 32, 3) := by decide +kernel
theorem dX9_isSo_40 : decode cX9_isSo 40 = .ok (.iconst 2, 1) := by decide +kernel
theorem dX9_isSo_41 : decode cX9_isSo 41 = .ok (.iload_n 3, 1) := by decide +kernel
theorem dX9_isSo_42 : decode cX9_isSo 42 = .ok (.imul, 1) := by decide +kernel
theorem dX9_isSo_43 : decode cX9_isSo 43 = .ok (.iconst 1, 1) := by decide +kernel
theorem dX9_isSo_44 : decode cX9_isSo 44 = .ok (.iadd, 1) := by decide +kernel
theorem dX9_isSo_45 : decode cX9_isSo 45 = .ok (.iaload, 1) := by decide +kernel
theorem dX9_isSo_46 : decode cX9_isSo 46 = .ok (.aload_n 0, 1) := by decide +kernel
theorem dX9_isSo_47 : decode cX9_isSo 47 = .ok (.getfield 19, 3) := by decide +kernel
theorem dX9_isSo_50 : decode cX9_isSo 50 = .ok (.iconst 1, 1) := by decide +kernel
theorem dX9_isSo_51 : decode cX9_isSo 51 = .ok (.iaload, 1) := by decide +kernel
theorem dX9_isSo_52 : decode cX9_isSo 52 = .ok (.if_icmp .ne 7, 3) := by decide +kernel
theorem dX9_isSo_55 : decode cX9_isSo 55 = .ok (.iconst 1, 1) := by decide +kernel
theorem dX9_isSo_56 : decode cX9_isSo 56 = .ok (.goto 4, 3) := by decide +kernel
theorem dX9_isSo_59 : decode cX9_isSo 59 = .ok (.iconst 0, 1) := by decide +kernel
theorem dX9_isSo_60 : decode cX9_isSo 60 = .ok (.istore_n 1, 1) := by decide +kernel
theorem dX9_isSo_61 : decode cX9_isSo 61 = .ok (.iinc 3 1, 3) := by decide +kernel
theorem dX9_isSo_64 : decode cX9_isSo 64 = .ok (.goto (-52), 3) := by decide +kernel
theorem dX9_isSo_67 : decode cX9_isSo 67 = .ok (.aload_n 0, 1) := by decide +kernel
theorem dX9_isSo_68 : decode cX9_isSo 68 = .ok (.invokevirtual 123, 3) := by decide +kernel
theorem dX9_isSo_71 : decode cX9_isSo 71 = .ok (.pop, 1) := by decide +kernel
theorem dX9_isSo_72 : decode cX9_isSo 72 = .ok (.iinc 2 1, 3) := by decide +kernel
theorem dX9_isSo_75 : decode cX9_isSo 75 = .ok (.goto (-71), 3) := by decide +kernel
theorem dX9_isSo_78 : decode cX9_isSo 78 = .ok (.iload_n 1, 1) := by decide +kernel
theorem dX9_isSo_79 : decode cX9_isSo 79 = .ok (.ireturn, 1) := by decide +kernel
theorem dX9_splitFirst_0 : decode cX9_splitFirst 0 = .ok (.aload_n 0, 1) := by decide +kernel
theorem dX9_splitFirst_1 : decode cX9_splitFirst 1 = .ok (.invokevirtual 141, 3) := by decide +kernel
theorem dX9_splitFirst_4 : decode cX9_splitFirst 4 = .ok (.aload_n 0, 1) := by decide +kernel
theorem dX9_splitFirst_5 : decode cX9_splitFirst 5 = .ok (.invokevirtual 92, 3) := by decide +kernel
theorem dX9_splitFirst_8 : decode cX9_splitFirst 8 = .ok (.aload_n 0, 1) := by decide +kernel
theorem dX9_splitFirst_9 : decode cX9_splitFirst 9 = .ok (.invokevirtual 160, 3) := by decide +kernel
theorem dX9_splitFirst_12 : decode cX9_splitFirst 12 = .ok (.ifCond .eq 9, 3) := by decide +kernel
theorem dX9_splitFirst_15 : decode cX9_splitFirst 15 = .ok (.sipush 256, 3) := by decide +kernel
theorem dX9_splitFirst_18 : decode cX9_splitFirst 18 = .ok (.goto 4, 3) := by decide +kernel
theorem dX9_splitFirst_21 : decode cX9_splitFirst 21 = .ok (.iconst 0, 1) := by decide +kernel
theorem dX9_splitFirst_22 : decode cX9_splitFirst 22 = .ok (.istore_n 1, 1) := by decide +kernel
theorem dX9_splitFirst_23 : decode cX9_splitFirst 23 = .ok (.iconst 0, 1) := by decide +kernel
theorem dX9_splitFirst_24 : decode cX9_splitFirst 24 = .ok (.istore_n 2, 1) := by decide +kernel
theorem dX9_splitFirst_25 : decode cX9_splitFirst 25 = .ok (.iload_n 2, 1) := by decide +kernel
theorem dX9_splitFirst_26 : decode cX9_splitFirst 26 = .ok (.aload_n 0, 1) := by decide +kernel
theorem dX9_splitFirst_27 : decode cX9_splitFirst 27 = .ok (.getfield 13, 3) := by decide +kernel
theorem dX9_splitFirst_30 : decode cX9_splitFirst 30 = .ok (.iconst 5, 1) := by decide +kernel
theorem dX9_splitFirst_31 : decode cX9_splitFirst 31 = .ok (.iaload, 1) := by decide +kernel
theorem dX9_splitFirst_32 : decode cX9_splitFirst 32 = .ok (.if_icmp .ge 44, 3) := by decide +kernel
theorem dX9_splitFirst_35 : decode cX9_splitFirst 35 = .ok (.aload_n 0, 1) := by decide +kernel
theorem dX9_splitFirst_36 : decode cX9_splitFirst 36 = .ok (.invokevirtual 92, 3) := by decide +kernel
theorem dX9_splitFirst_39 : decode cX9_splitFirst 39 = .ok (.aload_n 0, 1) := by decide +kernel
theorem dX9_splitFirst_40 : decode cX9_splitFirst 40 = .ok (.iload_n 2, 1) := by decide +kernel
theorem dX9_splitFirst_41 : decode cX9_splitFirst 41 = .ok (.invokevirtual 132, 3) := by decide +kernel
theorem dX9_splitFirst_44 : decode cX9_splitFirst 44 = .ok (.ifCond .eq 26, 3) := by decide +kernel
theorem dX9_splitFirst_47 : decode cX9_splitFirst 47 = .ok (.aload_n 0, 1) := by decide +kernel
theorem dX9_splitFirst_48 : decode cX9_splitFirst 48 = .ok (.iload_n 2, 1) := by decide +kernel
theorem dX9_splitFirst_49 : decode cX9_splitFirst 49 = .ok (.invokevirtual 135, 3) := by decide +kernel
theorem dX9_splitFirst_52 : decode cX9_splitFirst 52 = .ok (.pop, 1) := by decide +kernel
theorem dX9_splitFirst_53 : decode cX9_splitFirst 53 = .ok (.iload_n 1, 1) := by decide +kernel
theorem dX9_splitFirst_54 : decode cX9_splitFirst 54 = .ok (.aload_n 0, 1) := by decide +kernel
theorem dX9_splitFirst_55 : decode cX9_splitFirst 55 = .ok (.invokevirtual 160, 3) := by decide +kernel
theorem dX9_splitFirst_58 : decode cX9_splitFirst 58 = .ok (.ifCond .eq 9, 3) := by decide +kernel
theorem dX9_splitFirst_61 : decode cX9_splitFirst 61 = .ok (.iconst 1, 1) := by decide +kernel
theorem dX9_splitFirst_62 : decode cX9_splitFirst 62 = .ok (.iload_n 2, 1) := by decide +kernel
theorem dX9_splitFirst_63 : decode cX9_splitFirst 63 = .ok (.ishl, 1) := by decide +kernel
theorem dX9_splitFirst_64 : decode cX9_splitFirst 64 = .ok (.goto 4, 3) := by decide +kernel
theorem dX9_splitFirst_67 : decode cX9_splitFirst 67 = .ok (.iconst 0, 1) := by decide +kernel
theorem dX9_splitFirst_68 : decode cX9_splitFirst 68 = .ok (.ior, 1) := by decide +kernel
theorem dX9_splitFirst_69 : decode cX9_splitFirst 69 = .ok (.istore_n 1, 1) := by decide +kernel
theorem dX9_splitFirst_70 : decode cX9_splitFirst 70 = .ok (.iinc 2 1, 3) := by decide +kernel
theorem dX9_splitFirst_73 : decode cX9_splitFirst 73 = .ok (.goto (-48), 3) := by decide +kernel
theorem dX9_splitFirst_76 : decode cX9_splitFirst 76 = .ok (.aload_n 0, 1) := by decide +kernel
theorem dX9_splitFirst_77 : decode cX9_splitFirst 77 = .ok (.invokevirtual 144, 3) := by decide +kernel
theorem dX9_splitFirst_80 : decode cX9_splitFirst 80 = .ok (.iload_n 1, 1) := by decide +kernel
theorem dX9_splitFirst_81 : decode cX9_splitFirst 81 = .ok (.ireturn, 1) := by decide +kernel
theorem dX9_odds_0 : decode cX9_odds 0 = .ok (.aload_n 0, 1) := by decide +kernel
theorem dX9_odds_1 : decode cX9_odds 1 = .ok (.iload_n 1, 1) := by decide +kernel
theorem dX9_odds_2 : decode cX9_odds 2 = .ok (.invokevirtual 129, 3) := by decide +kernel
theorem dX9_odds_5 : decode cX9_odds 5 = .ok (.ifCond .eq 44, 3) := by decide +kernel
theorem dX9_odds_8 : decode cX9_odds 8 = .ok (.iload_n 2, 1) := by decide +kernel
theorem dX9_odds_9 : decode cX9_odds 9 = .ok (.iconst 0, 1) := by decide +kernel
theorem dX9_odds_10 : decode cX9_odds 10 = .ok (.bipush 10, 2) := by decide +kernel
theorem dX9_odds_12 : decode cX9_odds 12 = .ok (.invokestatic 45, 3) := by decide +kernel
theorem dX9_odds_15 : decode cX9_odds 15 = .ok (.ifCond .eq 34, 3) := by decide +kernel
theorem dX9_odds_18 : decode cX9_odds 18 = .ok (.iload_n 3, 1) := by decide +kernel
theorem dX9_odds_19 : decode cX9_odds 19 = .ok (.iconst 0, 1) := by decide +kernel
theorem dX9_odds_20 : decode cX9_odds 20 = .ok (.bipush 40, 2) := by decide +kernel
theorem dX9_odds_22 : decode cX9_odds 22 = .ok (.invokestatic 45, 3) := by decide +kernel
theorem dX9_odds_25 : decode cX9_odds 25 = .ok (.ifCond .eq 24, 3) := by decide +kernel
theorem dX9_odds_28 : decode cX9_odds 28 = .ok (.iload 4, 2) := by decide +kernel
theorem dX9_odds_30 : decode cX9_odds 30 = .ok (.iconst 0, 1) := by decide +kernel
theorem dX9_odds_31 : decode cX9_odds 31 = .ok (.bipush 9, 2) := by decide +kernel
theorem dX9_odds_33 : decode cX9_odds 33 = .ok (.invokestatic 45, 3) := by decide +kernel
theorem dX9_odds_36 : decode cX9_odds 36 = .ok (.ifCond .eq 13, 3) := by decide +kernel
theorem dX9_odds_39 : decode cX9_odds 39 = .ok (.iload 5, 2) := by decide +kernel
theorem dX9_odds_41 : decode cX9_odds 41 = .ok (.iconst 0, 1) := by decide +kernel
theorem dX9_odds_42 : decode cX9_odds 42 = .ok (.iconst 1, 1) := by decide +kernel
theorem dX9_odds_43 : decode cX9_odds 43 = .ok (.invokestatic 45, 3) := by decide +kernel
theorem dX9_odds_46 : decode cX9_odds 46 = .ok (.ifCond .ne 5, 3) := by decide +kernel
theorem dX9_odds_49 : decode cX9_odds 49 = .ok (.iconst (-1), 1) := by decide +kernel
theorem dX9_odds_50 : decode cX9_odds 50 = .ok (.ireturn, 1) := by decide +kernel
theorem dX9_odds_51 : decode cX9_odds 51 = .ok (.aload_n 0, 1) := by decide +kernel
theorem dX9_odds_52 : decode cX9_odds 52 = .ok (.getfield 19, 3) := by decide +kernel
theorem dX9_odds_55 : decode cX9_odds 55 = .ok (.bipush 19, 2) := by decide +kernel
theorem dX9_odds_57 : decode cX9_odds 57 = .ok (.iload_n 1, 1) := by decide +kernel
theorem dX9_odds_58 : decode cX9_odds 58 = .ok (.iadd, 1) := by decide +kernel
theorem dX9_odds_59 : decode cX9_odds 59 = .ok (.iaload, 1) := by decide +kernel
theorem dX9_odds_60 : decode cX9_odds 60 = .ok (.iconst 1, 1) := by decide +kernel
theorem dX9_odds_61 : decode cX9_odds 61 = .ok (.if_icmp .ge 7, 3) := by decide +kernel
theorem dX9_odds_64 : decode cX9_odds 64 = .ok (.iconst 1, 1) := by decide +kernel
theorem dX9_odds_65 : decode cX9_odds 65 = .ok (.goto 12, 3) := by decide +kernel
theorem dX9_odds_68 : decode cX9_odds 68 = .ok (.aload_n 0, 1) := by decide +kernel
theorem dX9_odds_69 : decode cX9_odds 69 = .ok (.getfield 19, 3) := by decide +kernel
theorem dX9_odds_72 : decode cX9_odds 72 = .ok (.bipush 19, 2) := by decide +kernel
theorem dX9_odds_74 : decode cX9_odds 74 = .ok (.iload_n 1, 1) := by decide +kernel
theorem dX9_odds_75 : decode cX9_odds 75 = .ok (.iadd, 1) := by decide +kernel
theorem dX9_odds_76 : decode cX9_odds 76 = .ok (.iaload, 1) := by decide +kernel
theorem dX9_odds_77 : decode cX9_odds 77 = .ok (.istore 6, 2) := by decide +kernel
theorem dX9_odds_79 : decode cX9_odds 79 = .ok (.iload 6, 2) := by decide +kernel
theorem dX9_odds_81 : decode cX9_odds 81 = .ok (.iload_n 3, 1) := by decide +kernel
theorem dX9_odds_82 : decode cX9_odds 82 = .ok (.if_icmp .le 7, 3) := by decide +kernel
theorem dX9_odds_85 : decode cX9_odds 85 = .ok (.iconst 0, 1) := by decide +kernel
theorem dX9_odds_86 : decode cX9_odds 86 = .ok (.goto 19, 3) := by decide +kernel
theorem dX9_odds_89 : decode cX9_odds 89 = .ok (.iconst 1, 1) := by decide +kernel
theorem dX9_odds_90 : decode cX9_odds 90 = .ok (.iload_n 3, 1) := by decide +kernel
theorem dX9_odds_91 : decode cX9_odds 91 = .ok (.iload 6, 2) := by decide +kernel
theorem dX9_odds_93 : decode cX9_odds 93 = .ok (.isub, 1) := by decide +kernel
theorem dX9_odds_94 : decode cX9_odds 94 = .ok (.aload_n 0, 1) := by decide +kernel
theorem dX9_odds_95 : decode cX9_odds 95 = .ok (.getfield 19, 3) := by decide +kernel
theorem dX9_odds_98 : decode cX9_odds 98 = .ok (.bipush 11, 2) := by decide +kernel
theorem dX9_odds_100 : decode cX9_odds 100 = .ok (.iload_n 1, 1) := by decide +kernel
theorem dX9_odds_101 : decode cX9_odds 101 = .ok (.iadd, 1) := by decide +kernel
theorem dX9_odds_102 : decode cX9_odds 102 = .ok (.iaload, 1) := by decide +kernel
theorem dX9_odds_103 : decode cX9_odds 103 = .ok (.idiv, 1) := by decide +kernel
theorem dX9_odds_104 : decode cX9_odds 104 = .ok (.iadd, 1) := by decide +kernel
theorem dX9_odds_105 : decode cX9_odds 105 = .ok (.istore 7, 2) := by decide +kernel
theorem dX9_odds_107 : decode cX9_odds 107 = .ok (.iload 7, 2) := by decide +kernel
theorem dX9_odds_109 : decode cX9_odds 109 = .ok (.bipush 9, 2) := by decide +kernel
theorem dX9_odds_111 : decode cX9_odds 111 = .ok (.if_icmp .le 6, 3) := by decide +kernel
theorem dX9_odds_114 : decode cX9_odds 114 = .ok (.ldc 163, 2) := by decide +kernel
theorem dX9_odds_116 : decode cX9_odds 116 = .ok (.ireturn, 1) := by decide +kernel
theorem dX9_odds_117 : decode cX9_odds 117 = .ok (.iconst 0, 1) := by decide +kernel
theorem dX9_odds_118 : decode cX9_odds 118 = .ok (.istore 8, 2) := by decide +kernel
theorem dX9_odds_120 : decode cX9_odds 120 = .ok (.iconst 1, 1) := by decide +kernel
theorem dX9_odds_121 : decode cX9_odds 121 = .ok (.istore 9, 2) := by decide +kernel
theorem dX9_odds_123 : decode cX9_odds 123 = .ok (.iconst 0, 1) := by decide +kernel
theorem dX9_odds_124 : decode cX9_odds 124 = .ok (.istore 10, 2) := by decide +kernel
theorem dX9_odds_126 : decode cX9_odds 126 = .ok (.iload 10, 2) := by decide +kernel
theorem dX9_odds_128 : decode cX9_odds 128 = .ok (.iload 7, 2) := by decide +kernel
theorem dX9_odds_130 : decode cX9_odds 130 = .ok (.if_icmp .ge 16, 3) := by decide +kernel
theorem dX9_odds_133 : decode cX9_odds 133 = .ok (.iload 9, 2) := by decide +kernel
theorem dX9_odds_135 : decode cX9_odds 135 = .ok (.bipush 10, 2) := by decide +kernel
theorem dX9_odds_137 : decode cX9_odds 137 = .ok (.imul, 1) := by decide +kernel
theorem dX9_odds_138 : decode cX9_odds 138 = .ok (.istore 9, 2) := by decide +kernel
theorem dX9_odds_140 : decode cX9_odds 140 = .ok (.iinc 10 1, 3) := by decide +kernel
theorem dX9_odds_143 : decode cX9_odds 143 = .ok (.goto (-17), 3) := by decide +kernel
theorem dX9_odds_146 : decode cX9_odds 146 = .ok (.iconst 0, 1) := by decide +kernel
theorem dX9_odds_147 : decode cX9_odds 147 = .ok (.istore 10, 2) := by decide +kernel
theorem dX9_odds_149 : decode cX9_odds 149 = .ok (.iload 10, 2) := by decide +kernel
theorem dX9_odds_151 : decode cX9_odds 151 = .ok (.iconst 1, 1) := by decide +kernel
theorem dX9_odds_152 : decode cX9_odds 152 = .ok (.iload 7, 2) := by decide +kernel
theorem dX9_odds_154 : decode cX9_odds 154 = .ok (.ishl, 1) := by decide +kernel
theorem dX9_odds_155 : decode cX9_odds 155 = .ok (.if_icmp .ge 100, 3) := by decide +kernel
theorem dX9_odds_158 : decode cX9_odds 158 = .ok (.iconst 1, 1) := by decide +kernel
theorem dX9_odds_159 : decode cX9_odds 159 = .ok (.istore 11, 2) := by decide +kernel
theorem dX9_odds_161 : decode cX9_odds 161 = .ok (.iconst 0, 1) := by decide +kernel
theorem dX9_odds_162 : decode cX9_odds 162 = .ok (.istore 12, 2) := by decide +kernel
theorem dX9_odds_164 : decode cX9_odds 164 = .ok (.iconst 0, 1) := by decide +kernel
theorem dX9_odds_165 : decode cX9_odds 165 = .ok (.istore 13, 2) := by decide +kernel
theorem dX9_odds_167 : decode cX9_odds 167 = .ok (.iload 13, 2) := by decide +kernel
theorem dX9_odds_169 : decode cX9_odds 169 = .ok (.iload 7, 2) := by decide +kernel
theorem dX9_odds_171 : decode cX9_odds 171 = .ok (.if_icmp .ge 60, 3) := by decide +kernel
theorem dX9_odds_174 : decode cX9_odds 174 = .ok (.iload 10, 2) := by decide +kernel
theorem dX9_odds_176 : decode cX9_odds 176 = .ok (.iload 13, 2) := by decide +kernel
theorem dX9_odds_178 : decode cX9_odds 178 = .ok (.ishr, 1) := by decide +kernel
theorem dX9_odds_179 : decode cX9_odds 179 = .ok (.iconst 1, 1) := by decide +kernel
theorem dX9_odds_180 : decode cX9_odds 180 = .ok (.iand, 1) := by decide +kernel
theorem dX9_odds_181 : decode cX9_odds 181 = .ok (.iconst 1, 1) := by decide +kernel
theorem dX9_odds_182 : decode cX9_odds 182 = .ok (.if_icmp .ne 7, 3) := by decide +kernel
theorem dX9_odds_185 : decode cX9_odds 185 = .ok (.iconst 1, 1) := by decide +kernel
theorem dX9_odds_186 : decode cX9_odds 186 = .ok (.goto 4, 3) := by decide +kernel
theorem dX9_odds_189 : decode cX9_odds 189 = .ok (.iconst 0, 1) := by decide +kernel
theorem dX9_odds_190 : decode cX9_odds 190 = .ok (.istore 14, 2) := by decide +kernel
theorem dX9_odds_192 : decode cX9_odds 192 = .ok (.iload 11, 2) := by decide +kernel
theorem dX9_odds_194 : decode cX9_odds 194 = .ok (.iload 14, 2) := by decide +kernel
theorem dX9_odds_196 : decode cX9_odds 196 = .ok (.ifCond .eq 10, 3) := by decide +kernel
theorem dX9_odds_199 : decode cX9_odds 199 = .ok (.bipush 10, 2) := by decide +kernel
theorem dX9_odds_201 : decode cX9_odds 201 = .ok (.iload_n 2, 1) := by decide +kernel
theorem dX9_odds_202 : decode cX9_odds 202 = .ok (.isub, 1) := by decide +kernel
theorem dX9_odds_203 : decode cX9_odds 203 = .ok (.goto 4, 3) := by decide +kernel
theorem dX9_odds_206 : decode cX9_odds 206 = .ok (.iload_n 2, 1) := by decide +kernel
theorem dX9_odds_207 : decode cX9_odds 207 = .ok (.imul, 1) := by decide +kernel
theorem dX9_odds_208 : decode cX9_odds 208 = .ok (.istore 11, 2) := by decide +kernel
theorem dX9_odds_210 : decode cX9_odds 210 = .ok (.iload 12, 2) := by decide +kernel
theorem dX9_odds_212 : decode cX9_odds 212 = .ok (.iload 14, 2) := by decide +kernel
theorem dX9_odds_214 : decode cX9_odds 214 = .ok (.ifCond .eq 7, 3) := by decide +kernel
theorem dX9_odds_217 : decode cX9_odds 217 = .ok (.iconst 1, 1) := by decide +kernel
theorem dX9_odds_218 : decode cX9_odds 218 = .ok (.goto 4, 3) := by decide +kernel
theorem dX9_odds_221 : decode cX9_odds 221 = .ok (.iconst 0, 1) := by decide +kernel
theorem dX9_odds_222 : decode cX9_odds 222 = .ok (.iadd, 1) := by decide +kernel
theorem dX9_odds_223 : decode cX9_odds 223 = .ok (.istore 12, 2) := by decide +kernel
theorem dX9_odds_225 : decode cX9_odds 225 = .ok (.iinc 13 1, 3) := by decide +kernel
theorem dX9_odds_228 : decode cX9_odds 228 = .ok (.goto (-61), 3) := by decide +kernel
theorem dX9_odds_231 : decode cX9_odds 231 = .ok (.iload 8, 2) := by decide +kernel
theorem dX9_odds_233 : decode cX9_odds 233 = .ok (.iload 12, 2) := by decide +kernel
theorem dX9_odds_235 : decode cX9_odds 235 = .ok (.iload 4, 2) := by decide +kernel
theorem dX9_odds_237 : decode cX9_odds 237 = .ok (.if_icmp .lt 8, 3) := by decide +kernel
theorem dX9_odds_240 : decode cX9_odds 240 = .ok (.iload 11, 2) := by decide +kernel
theorem dX9_odds_242 : decode cX9_odds 242 = .ok (.goto 4, 3) := by decide +kernel
theorem dX9_odds_245 : decode cX9_odds 245 = .ok (.iconst 0, 1) := by decide +kernel
theorem dX9_odds_246 : decode cX9_odds 246 = .ok (.iadd, 1) := by decide +kernel
theorem dX9_odds_247 : decode cX9_odds 247 = .ok (.istore 8, 2) := by decide +kernel
theorem dX9_odds_249 : decode cX9_odds 249 = .ok (.iinc 10 1, 3) := by decide +kernel
theorem dX9_odds_252 : decode cX9_odds 252 = .ok (.goto (-103), 3) := by decide +kernel
theorem dX9_odds_255 : decode cX9_odds 255 = .ok (.iload 8, 2) := by decide +kernel
theorem dX9_odds_257 : decode cX9_odds 257 = .ok (.i2l, 1) := by decide +kernel
theorem dX9_odds_258 : decode cX9_odds 258 = .ok (.iload 9, 2) := by decide +kernel
theorem dX9_odds_260 : decode cX9_odds 260 = .ok (.i2l, 1) := by decide +kernel
theorem dX9_odds_261 : decode cX9_odds 261 = .ok (.invokestatic 156, 3) := by decide +kernel
theorem dX9_odds_264 : decode cX9_odds 264 = .ok (.l2i, 1) := by decide +kernel
theorem dX9_odds_265 : decode cX9_odds 265 = .ok (.istore 10, 2) := by decide +kernel
theorem dX9_odds_267 : decode cX9_odds 267 = .ok (.iload 5, 2) := by decide +kernel
theorem dX9_odds_269 : decode cX9_odds 269 = .ok (.ifCond .ne 11, 3) := by decide +kernel
theorem dX9_odds_272 : decode cX9_odds 272 = .ok (.iload 8, 2) := by decide +kernel
theorem dX9_odds_274 : decode cX9_odds 274 = .ok (.iload 10, 2) := by decide +kernel
theorem dX9_odds_276 : decode cX9_odds 276 = .ok (.idiv, 1) := by decide +kernel
theorem dX9_odds_277 : decode cX9_odds 277 = .ok (.goto 8, 3) := by decide +kernel
theorem dX9_odds_280 : decode cX9_odds 280 = .ok (.iload 9, 2) := by decide +kernel
theorem dX9_odds_282 : decode cX9_odds 282 = .ok (.iload 10, 2) := by decide +kernel
theorem dX9_odds_284 : decode cX9_odds 284 = .ok (.idiv, 1) := by decide +kernel
theorem dX9_odds_285 : decode cX9_odds 285 = .ok (.ireturn, 1) := by decide +kernel
theorem dX9_rate_0 : decode cX9_rate 0 = .ok (.iload_n 1, 1) := by decide +kernel
theorem dX9_rate_1 : decode cX9_rate 1 = .ok (.iconst 0, 1) := by decide +kernel
theorem dX9_rate_2 : decode cX9_rate 2 = .ok (.iconst 5, 1) := by decide +kernel
theorem dX9_rate_3 : decode cX9_rate 3 = .ok (.invokestatic 45, 3) := by decide +kernel
theorem dX9_rate_6 : decode cX9_rate 6 = .ok (.ifCond .eq 10, 3) := by decide +kernel
theorem dX9_rate_9 : decode cX9_rate 9 = .ok (.iload_n 2, 1) := by decide +kernel
theorem dX9_rate_10 : decode cX9_rate 10 = .ok (.invokestatic 49, 3) := by decide +kernel
theorem dX9_rate_13 : decode cX9_rate 13 = .ok (.ifCond .ne 6, 3) := by decide +kernel
theorem dX9_rate_16 : decode cX9_rate 16 = .ok (.ldc 163, 2) := by decide +kernel
theorem dX9_rate_18 : decode cX9_rate 18 = .ok (.ireturn, 1) := by decide +kernel
theorem dX9_rate_19 : decode cX9_rate 19 = .ok (.aload_n 0, 1) := by decide +kernel
theorem dX9_rate_20 : decode cX9_rate 20 = .ok (.dup, 1) := by decide +kernel
theorem dX9_rate_21 : decode cX9_rate 21 = .ok (.getfield 164, 3) := by decide +kernel
theorem dX9_rate_24 : decode cX9_rate 24 = .ok (.iload_n 1, 1) := by decide +kernel
theorem dX9_rate_25 : decode cX9_rate 25 = .ok (.ifCond .ne 7, 3) := by decide +kernel
theorem dX9_rate_28 : decode cX9_rate 28 = .ok (.lconst 1, 1) := by decide +kernel
theorem dX9_rate_29 : decode cX9_rate 29 = .ok (.goto 50, 3) := by decide +kernel
theorem dX9_rate_32 : decode cX9_rate 32 = .ok (.iload_n 1, 1) := by decide +kernel
theorem dX9_rate_33 : decode cX9_rate 33 = .ok (.iconst 1, 1) := by decide +kernel
theorem dX9_rate_34 : decode cX9_rate 34 = .ok (.if_icmp .ne 9, 3) := by decide +kernel
theorem dX9_rate_37 : decode cX9_rate 37 = .ok (.ldc2_w 168, 3) := by decide +kernel
theorem dX9_rate_40 : decode cX9_rate 40 = .ok (.goto 39, 3) := by decide +kernel
theorem dX9_rate_43 : decode cX9_rate 43 = .ok (.iload_n 1, 1) := by decide +kernel
theorem dX9_rate_44 : decode cX9_rate 44 = .ok (.iconst 2, 1) := by decide +kernel
theorem dX9_rate_45 : decode cX9_rate 45 = .ok (.if_icmp .ne 9, 3) := by decide +kernel
theorem dX9_rate_48 : decode cX9_rate 48 = .ok (.ldc2_w 170, 3) := by decide +kernel
theorem dX9_rate_51 : decode cX9_rate 51 = .ok (.goto 28, 3) := by decide +kernel
theorem dX9_rate_54 : decode cX9_rate 54 = .ok (.iload_n 1, 1) := by decide +kernel
theorem dX9_rate_55 : decode cX9_rate 55 = .ok (.iconst 3, 1) := by decide +kernel
theorem dX9_rate_56 : decode cX9_rate 56 = .ok (.if_icmp .ne 9, 3) := by decide +kernel
theorem dX9_rate_59 : decode cX9_rate 59 = .ok (.ldc2_w 172, 3) := by decide +kernel
theorem dX9_rate_62 : decode cX9_rate 62 = .ok (.goto 17, 3) := by decide +kernel
theorem dX9_rate_65 : decode cX9_rate 65 = .ok (.iload_n 1, 1) := by decide +kernel
theorem dX9_rate_66 : decode cX9_rate 66 = .ok (.iconst 4, 1) := by decide +kernel
theorem dX9_rate_67 : decode cX9_rate 67 = .ok (.if_icmp .ne 9, 3) := by decide +kernel
theorem dX9_rate_70 : decode cX9_rate 70 = .ok (.ldc2_w 174, 3) := by decide +kernel
theorem dX9_rate_73 : decode cX9_rate 73 = .ok (.goto 6, 3) := by decide +kernel
theorem dX9_rate_76 : decode cX9_rate 76 = .ok (.ldc2_w 176, 3) := by decide +kernel
theorem dX9_rate_79 : decode cX9_rate 79 = .ok (.ladd, 1) := by decide +kernel
theorem dX9_rate_80 : decode cX9_rate 80 = .ok (.putfield 164, 3) := by decide +kernel
theorem dX9_rate_83 : decode cX9_rate 83 = .ok (.aload_n 0, 1) := by decide +kernel
theorem dX9_rate_84 : decode cX9_rate 84 = .ok (.getfield 19, 3) := by decide +kernel
theorem dX9_rate_87 : decode cX9_rate 87 = .ok (.iconst 3, 1) := by decide +kernel
theorem dX9_rate_88 : decode cX9_rate 88 = .ok (.iload_n 2, 1) := by decide +kernel
theorem dX9_rate_89 : decode cX9_rate 89 = .ok (.iadd, 1) := by decide +kernel
theorem dX9_rate_90 : decode cX9_rate 90 = .ok (.iaload, 1) := by decide +kernel
theorem dX9_rate_91 : decode cX9_rate 91 = .ok (.istore_n 3, 1) := by decide +kernel
theorem dX9_rate_92 : decode cX9_rate 92 = .ok (.iload_n 3, 1) := by decide +kernel
theorem dX9_rate_93 : decode cX9_rate 93 = .ok (.aload_n 0, 1) := by decide +kernel
theorem dX9_rate_94 : decode cX9_rate 94 = .ok (.getfield 19, 3) := by decide +kernel
theorem dX9_rate_97 : decode cX9_rate 97 = .ok (.bipush 11, 2) := by decide +kernel
theorem dX9_rate_99 : decode cX9_rate 99 = .ok (.iload_n 2, 1) := by decide +kernel
theorem dX9_rate_100 : decode cX9_rate 100 = .ok (.iadd, 1) := by decide +kernel
theorem dX9_rate_101 : decode cX9_rate 101 = .ok (.iaload, 1) := by decide +kernel
theorem dX9_rate_102 : decode cX9_rate 102 = .ok (.iadd, 1) := by decide +kernel
theorem dX9_rate_103 : decode cX9_rate 103 = .ok (.istore 4, 2) := by decide +kernel
theorem dX9_rate_105 : decode cX9_rate 105 = .ok (.iload_n 3, 1) := by decide +kernel
theorem dX9_rate_106 : decode cX9_rate 106 = .ok (.aload_n 0, 1) := by decide +kernel
theorem dX9_rate_107 : decode cX9_rate 107 = .ok (.getfield 19, 3) := by decide +kernel
theorem dX9_rate_110 : decode cX9_rate 110 = .ok (.bipush 19, 2) := by decide +kernel
theorem dX9_rate_112 : decode cX9_rate 112 = .ok (.iload_n 2, 1) := by decide +kernel
theorem dX9_rate_113 : decode cX9_rate 113 = .ok (.iadd, 1) := by decide +kernel
theorem dX9_rate_114 : decode cX9_rate 114 = .ok (.iaload, 1) := by decide +kernel
theorem dX9_rate_115 : decode cX9_rate 115 = .ok (.isub, 1) := by decide +kernel
theorem dX9_rate_116 : decode cX9_rate 116 = .ok (.istore 5, 2) := by decide +kernel
theorem dX9_rate_118 : decode cX9_rate 118 = .ok (.iload_n 1, 1) := by decide +kernel
theorem dX9_rate_119 : decode cX9_rate 119 = .ok (.ifCond .ne 7, 3) := by decide +kernel
theorem dX9_rate_122 : decode cX9_rate 122 = .ok (.iload_n 3, 1) := by decide +kernel
theorem dX9_rate_123 : decode cX9_rate 123 = .ok (.goto 53, 3) := by decide +kernel
theorem dX9_rate_126 : decode cX9_rate 126 = .ok (.iload_n 1, 1) := by decide +kernel
theorem dX9_rate_127 : decode cX9_rate 127 = .ok (.iconst 1, 1) := by decide +kernel
theorem dX9_rate_128 : decode cX9_rate 128 = .ok (.if_icmp .ne 8, 3) := by decide +kernel
theorem dX9_rate_131 : decode cX9_rate 131 = .ok (.iload 4, 2) := by decide +kernel
theorem dX9_rate_133 : decode cX9_rate 133 = .ok (.goto 43, 3) := by decide +kernel
theorem dX9_rate_136 : decode cX9_rate 136 = .ok (.iload_n 1, 1) := by decide +kernel
theorem dX9_rate_137 : decode cX9_rate 137 = .ok (.iconst 2, 1) := by decide +kernel
theorem dX9_rate_138 : decode cX9_rate 138 = .ok (.if_icmp .ne 8, 3) := by decide +kernel
theorem dX9_rate_141 : decode cX9_rate 141 = .ok (.iload 5, 2) := by decide +kernel
theorem dX9_rate_143 : decode cX9_rate 143 = .ok (.goto 33, 3) := by decide +kernel
theorem dX9_rate_146 : decode cX9_rate 146 = .ok (.iload_n 1, 1) := by decide +kernel
theorem dX9_rate_147 : decode cX9_rate 147 = .ok (.iconst 3, 1) := by decide +kernel
theorem dX9_rate_148 : decode cX9_rate 148 = .ok (.if_icmp .ne 10, 3) := by decide +kernel
theorem dX9_rate_151 : decode cX9_rate 151 = .ok (.iconst 2, 1) := by decide +kernel
theorem dX9_rate_152 : decode cX9_rate 152 = .ok (.iload 4, 2) := by decide +kernel
theorem dX9_rate_154 : decode cX9_rate 154 = .ok (.imul, 1) := by decide +kernel
theorem dX9_rate_155 : decode cX9_rate 155 = .ok (.goto 21, 3) := by decide +kernel
theorem dX9_rate_158 : decode cX9_rate 158 = .ok (.iload_n 1, 1) := by decide +kernel
theorem dX9_rate_159 : decode cX9_rate 159 = .ok (.iconst 4, 1) := by decide +kernel
theorem dX9_rate_160 : decode cX9_rate 160 = .ok (.if_icmp .ne 10, 3) := by decide +kernel
theorem dX9_rate_163 : decode cX9_rate 163 = .ok (.iload 5, 2) := by decide +kernel
theorem dX9_rate_165 : decode cX9_rate 165 = .ok (.iload_n 2, 1) := by decide +kernel
theorem dX9_rate_166 : decode cX9_rate 166 = .ok (.iadd, 1) := by decide +kernel
theorem dX9_rate_167 : decode cX9_rate 167 = .ok (.goto 9, 3) := by decide +kernel
theorem dX9_rate_170 : decode cX9_rate 170 = .ok (.iload_n 3, 1) := by decide +kernel
theorem dX9_rate_171 : decode cX9_rate 171 = .ok (.aload_n 0, 1) := by decide +kernel
theorem dX9_rate_172 : decode cX9_rate 172 = .ok (.invokevirtual 88, 3) := by decide +kernel
theorem dX9_rate_175 : decode cX9_rate 175 = .ok (.iadd, 1) := by decide +kernel
theorem dX9_rate_176 : decode cX9_rate 176 = .ok (.ireturn, 1) := by decide +kernel
theorem dX9_keep_0 : decode cX9_keep 0 = .ok (.iload_n 1, 1) := by decide +kernel
theorem dX9_keep_1 : decode cX9_keep 1 = .ok (.iconst 0, 1) := by decide +kernel
theorem dX9_keep_2 : decode cX9_keep 2 = .ok (.iconst 1, 1) := by decide +kernel
theorem dX9_keep_3 : decode cX9_keep 3 = .ok (.invokestatic 45, 3) := by decide +kernel
theorem dX9_keep_6 : decode cX9_keep 6 = .ok (.ifCond .ne 5, 3) := by decide +kernel
theorem dX9_keep_9 : decode cX9_keep 9 = .ok (.iconst (-1), 1) := by decide +kernel
theorem dX9_keep_10 : decode cX9_keep 10 = .ok (.ireturn, 1) := by decide +kernel
theorem dX9_keep_11 : decode cX9_keep 11 = .ok (.iconst 0, 1) := by decide +kernel
theorem dX9_keep_12 : decode cX9_keep 12 = .ok (.istore_n 2, 1) := by decide +kernel
theorem dX9_keep_13 : decode cX9_keep 13 = .ok (.iload_n 2, 1) := by decide +kernel
theorem dX9_keep_14 : decode cX9_keep 14 = .ok (.bipush 59, 2) := by decide +kernel
theorem dX9_keep_16 : decode cX9_keep 16 = .ok (.if_icmp .ge 26, 3) := by decide +kernel
theorem dX9_keep_19 : decode cX9_keep 19 = .ok (.aload_n 0, 1) := by decide +kernel
theorem dX9_keep_20 : decode cX9_keep 20 = .ok (.getfield 25, 3) := by decide +kernel
theorem dX9_keep_23 : decode cX9_keep 23 = .ok (.bipush 59, 2) := by decide +kernel
theorem dX9_keep_25 : decode cX9_keep 25 = .ok (.iload_n 1, 1) := by decide +kernel
theorem dX9_keep_26 : decode cX9_keep 26 = .ok (.imul, 1) := by decide +kernel
theorem dX9_keep_27 : decode cX9_keep 27 = .ok (.iload_n 2, 1) := by decide +kernel
theorem dX9_keep_28 : decode cX9_keep 28 = .ok (.iadd, 1) := by decide +kernel
theorem dX9_keep_29 : decode cX9_keep 29 = .ok (.aload_n 0, 1) := by decide +kernel
theorem dX9_keep_30 : decode cX9_keep 30 = .ok (.getfield 19, 3) := by decide +kernel
theorem dX9_keep_33 : decode cX9_keep 33 = .ok (.iload_n 2, 1) := by decide +kernel
theorem dX9_keep_34 : decode cX9_keep 34 = .ok (.iaload, 1) := by decide +kernel
theorem dX9_keep_35 : decode cX9_keep 35 = .ok (.iastore, 1) := by decide +kernel
theorem dX9_keep_36 : decode cX9_keep 36 = .ok (.iinc 2 1, 3) := by decide +kernel
theorem dX9_keep_39 : decode cX9_keep 39 = .ok (.goto (-26), 3) := by decide +kernel
theorem dX9_keep_42 : decode cX9_keep 42 = .ok (.aload_n 0, 1) := by decide +kernel
theorem dX9_keep_43 : decode cX9_keep 43 = .ok (.getfield 28, 3) := by decide +kernel
theorem dX9_keep_46 : decode cX9_keep 46 = .ok (.iload_n 1, 1) := by decide +kernel
theorem dX9_keep_47 : decode cX9_keep 47 = .ok (.iconst 1, 1) := by decide +kernel
theorem dX9_keep_48 : decode cX9_keep 48 = .ok (.bastore, 1) := by decide +kernel
theorem dX9_keep_49 : decode cX9_keep 49 = .ok (.aload_n 0, 1) := by decide +kernel
theorem dX9_keep_50 : decode cX9_keep 50 = .ok (.getfield 19, 3) := by decide +kernel
theorem dX9_keep_53 : decode cX9_keep 53 = .ok (.iconst 0, 1) := by decide +kernel
theorem dX9_keep_54 : decode cX9_keep 54 = .ok (.iaload, 1) := by decide +kernel
theorem dX9_keep_55 : decode cX9_keep 55 = .ok (.ireturn, 1) := by decide +kernel
theorem dX9_back_0 : decode cX9_back 0 = .ok (.iload_n 1, 1) := by decide +kernel
theorem dX9_back_1 : decode cX9_back 1 = .ok (.iconst 0, 1) := by decide +kernel
theorem dX9_back_2 : decode cX9_back 2 = .ok (.iconst 1, 1) := by decide +kernel
theorem dX9_back_3 : decode cX9_back 3 = .ok (.invokestatic 45, 3) := by decide +kernel
theorem dX9_back_6 : decode cX9_back 6 = .ok (.ifCond .ne 5, 3) := by decide +kernel
theorem dX9_back_9 : decode cX9_back 9 = .ok (.iconst (-1), 1) := by decide +kernel
theorem dX9_back_10 : decode cX9_back 10 = .ok (.ireturn, 1) := by decide +kernel
theorem dX9_back_11 : decode cX9_back 11 = .ok (.aload_n 0, 1) := by decide +kernel
theorem dX9_back_12 : decode cX9_back 12 = .ok (.getfield 28, 3) := by decide +kernel
theorem dX9_back_15 : decode cX9_back 15 = .ok (.iload_n 1, 1) := by decide +kernel
theorem dX9_back_16 : decode cX9_back 16 = .ok (.baload, 1) := by decide +kernel
theorem dX9_back_17 : decode cX9_back 17 = .ok (.ifCond .ne 6, 3) := by decide +kernel
theorem dX9_back_20 : decode cX9_back 20 = .ok (.bipush (-2), 2) := by decide +kernel
theorem dX9_back_22 : decode cX9_back 22 = .ok (.ireturn, 1) := by decide +kernel
theorem dX9_back_23 : decode cX9_back 23 = .ok (.iconst 0, 1) := by decide +kernel
theorem dX9_back_24 : decode cX9_back 24 = .ok (.istore_n 2, 1) := by decide +kernel
theorem dX9_back_25 : decode cX9_back 25 = .ok (.iload_n 2, 1) := by decide +kernel
theorem dX9_back_26 : decode cX9_back 26 = .ok (.bipush 59, 2) := by decide +kernel
theorem dX9_back_28 : decode cX9_back 28 = .ok (.if_icmp .ge 26, 3) := by decide +kernel
theorem dX9_back_31 : decode cX9_back 31 = .ok (.aload_n 0, 1) := by decide +kernel
theorem dX9_back_32 : decode cX9_back 32 = .ok (.getfield 19, 3) := by decide +kernel
theorem dX9_back_35 : decode cX9_back 35 = .ok (.iload_n 2, 1) := by decide +kernel
theorem dX9_back_36 : decode cX9_back 36 = .ok (.aload_n 0, 1) := by decide +kernel
theorem dX9_back_37 : decode cX9_back 37 = .ok (.getfield 25, 3) := by decide +kernel
theorem dX9_back_40 : decode cX9_back 40 = .ok (.bipush 59, 2) := by decide +kernel
theorem dX9_back_42 : decode cX9_back 42 = .ok (.iload_n 1, 1) := by decide +kernel
theorem dX9_back_43 : decode cX9_back 43 = .ok (.imul, 1) := by decide +kernel
theorem dX9_back_44 : decode cX9_back 44 = .ok (.iload_n 2, 1) := by decide +kernel
theorem dX9_back_45 : decode cX9_back 45 = .ok (.iadd, 1) := by decide +kernel
theorem dX9_back_46 : decode cX9_back 46 = .ok (.iaload, 1) := by decide +kernel
theorem dX9_back_47 : decode cX9_back 47 = .ok (.iastore, 1) := by decide +kernel
theorem dX9_back_48 : decode cX9_back 48 = .ok (.iinc 2 1, 3) := by decide +kernel
theorem dX9_back_51 : decode cX9_back 51 = .ok (.goto (-26), 3) := by decide +kernel
theorem dX9_back_54 : decode cX9_back 54 = .ok (.aload_n 0, 1) := by decide +kernel
theorem dX9_back_55 : decode cX9_back 55 = .ok (.iconst 0, 1) := by decide +kernel
theorem dX9_back_56 : decode cX9_back 56 = .ok (.putfield 95, 3) := by decide +kernel
theorem dX9_back_59 : decode cX9_back 59 = .ok (.aload_n 0, 1) := by decide +kernel
theorem dX9_back_60 : decode cX9_back 60 = .ok (.getfield 19, 3) := by decide +kernel
theorem dX9_back_63 : decode cX9_back 63 = .ok (.iconst 0, 1) := by decide +kernel
theorem dX9_back_64 : decode cX9_back 64 = .ok (.iaload, 1) := by decide +kernel
theorem dX9_back_65 : decode cX9_back 65 = .ok (.ireturn, 1) := by decide +kernel
theorem dX9_count_0 : decode cX9_count 0 = .ok (.iload_n 1, 1) := by decide +kernel
theorem dX9_count_1 : decode cX9_count 1 = .ok (.iconst 0, 1) := by decide +kernel
theorem dX9_count_2 : decode cX9_count 2 = .ok (.bipush 6, 2) := by decide +kernel
theorem dX9_count_4 : decode cX9_count 4 = .ok (.invokestatic 45, 3) := by decide +kernel
theorem dX9_count_7 : decode cX9_count 7 = .ok (.ifCond .ne 5, 3) := by decide +kernel
theorem dX9_count_10 : decode cX9_count 10 = .ok (.iconst (-1), 1) := by decide +kernel
theorem dX9_count_11 : decode cX9_count 11 = .ok (.ireturn, 1) := by decide +kernel
theorem dX9_count_12 : decode cX9_count 12 = .ok (.iload_n 1, 1) := by decide +kernel
theorem dX9_count_13 : decode cX9_count 13 = .ok (.iconst 4, 1) := by decide +kernel
theorem dX9_count_14 : decode cX9_count 14 = .ok (.if_icmp .ge 14, 3) := by decide +kernel
theorem dX9_count_17 : decode cX9_count 17 = .ok (.aload_n 0, 1) := by decide +kernel
theorem dX9_count_18 : decode cX9_count 18 = .ok (.getfield 13, 3) := by decide +kernel
theorem dX9_count_21 : decode cX9_count 21 = .ok (.iconst 1, 1) := by decide +kernel
theorem dX9_count_22 : decode cX9_count 22 = .ok (.iload_n 1, 1) := by decide +kernel
theorem dX9_count_23 : decode cX9_count 23 = .ok (.iadd, 1) := by decide +kernel
theorem dX9_count_24 : decode cX9_count 24 = .ok (.iaload, 1) := by decide +kernel
theorem dX9_count_25 : decode cX9_count 25 = .ok (.goto 33, 3) := by decide +kernel
theorem dX9_count_28 : decode cX9_count 28 = .ok (.iload_n 1, 1) := by decide +kernel
theorem dX9_count_29 : decode cX9_count 29 = .ok (.iconst 4, 1) := by decide +kernel
theorem dX9_count_30 : decode cX9_count 30 = .ok (.if_icmp .ne 12, 3) := by decide +kernel
theorem dX9_count_33 : decode cX9_count 33 = .ok (.aload_n 0, 1) := by decide +kernel
theorem dX9_count_34 : decode cX9_count 34 = .ok (.getfield 13, 3) := by decide +kernel
end
section
theorem dX9_count_37 : decode cX9_count 37 = .ok (.iconst 5, 1) := by decide +kernel
theorem dX9_count_38 : decode cX9_count 38 = .ok (.iaload, 1) := by decide +kernel
theorem dX9_count_39 : decode cX9_count 39 = .ok (.goto 19, 3) := by decide +kernel
theorem dX9_count_42 : decode cX9_count 42 = .ok (.iload_n 1, 1) := by decide +kernel
theorem dX9_count_43 : decode cX9_count 43 = .ok (.iconst 5, 1) := by decide +kernel
theorem dX9_count_44 : decode cX9_count 44 = .ok (.if_icmp .ne 10, 3) := by decide +kernel
theorem dX9_count_47 : decode cX9_count 47 = .ok (.aload_n 0, 1) := by decide +kernel
theorem dX9_count_48 : decode cX9_count 48 = .ok (.getfield 98, 3) := by decide +kernel
theorem dX9_count_51 : decode cX9_count 51 = .ok (.goto 7, 3) := by decide +kernel
theorem dX9_count_54 : decode cX9_count 54 = .ok (.aload_n 0, 1) := by decide +kernel
theorem dX9_count_55 : decode cX9_count 55 = .ok (.getfield 53, 3) := by decide +kernel
theorem dX9_count_58 : decode cX9_count 58 = .ok (.ireturn, 1) := by decide +kernel
theorem dX9_trace_0 : decode cX9_trace 0 = .ok (.aload_n 0, 1) := by decide +kernel
theorem dX9_trace_1 : decode cX9_trace 1 = .ok (.getfield 164, 3) := by decide +kernel
theorem dX9_trace_4 : decode cX9_trace 4 = .ok (.lreturn, 1) := by decide +kernel
theorem dJ11_isValidCodePoint_9a6ad_0 : decode cJ11_isValidCodePoint_9a6ad 0 = .ok (.iload_n 0, 1) := by decide +kernel
theorem dJ11_isValidCodePoint_9a6ad_1 : decode cJ11_isValidCodePoint_9a6ad 1 = .ok (.bipush 16, 2) := by decide +kernel
theorem dJ11_isValidCodePoint_9a6ad_3 : decode cJ11_isValidCodePoint_9a6ad 3 = .ok (.iushr, 1) := by decide +kernel
theorem dJ11_isValidCodePoint_9a6ad_4 : decode cJ11_isValidCodePoint_9a6ad 4 = .ok (.istore_n 1, 1) := by decide +kernel
theorem dJ11_isValidCodePoint_9a6ad_5 : decode cJ11_isValidCodePoint_9a6ad 5 = .ok (.iload_n 1, 1) := by decide +kernel
theorem dJ11_isValidCodePoint_9a6ad_6 : decode cJ11_isValidCodePoint_9a6ad 6 = .ok (.bipush 17, 2) := by decide +kernel
theorem dJ11_isValidCodePoint_9a6ad_8 : decode cJ11_isValidCodePoint_9a6ad 8 = .ok (.if_icmp .ge 7, 3) := by decide +kernel
theorem dJ11_isValidCodePoint_9a6ad_11 : decode cJ11_isValidCodePoint_9a6ad 11 = .ok (.iconst 1, 1) := by decide +kernel
theorem dJ11_isValidCodePoint_9a6ad_12 : decode cJ11_isValidCodePoint_9a6ad 12 = .ok (.goto 4, 3) := by decide +kernel
theorem dJ11_isValidCodePoint_9a6ad_15 : decode cJ11_isValidCodePoint_9a6ad 15 = .ok (.iconst 0, 1) := by decide +kernel
theorem dJ11_isValidCodePoint_9a6ad_16 : decode cJ11_isValidCodePoint_9a6ad 16 = .ok (.ireturn, 1) := by decide +kernel
theorem dJ11_highSurrogate_5068e_0 : decode cJ11_highSurrogate_5068e 0 = .ok (.iload_n 0, 1) := by decide +kernel
theorem dJ11_highSurrogate_5068e_1 : decode cJ11_highSurrogate_5068e 1 = .ok (.bipush 10, 2) := by decide +kernel
theorem dJ11_highSurrogate_5068e_3 : decode cJ11_highSurrogate_5068e 3 = .ok (.iushr, 1) := by decide +kernel
theorem dJ11_highSurrogate_5068e_4 : decode cJ11_highSurrogate_5068e 4 = .ok (.ldc 110, 2) := by decide +kernel
theorem dJ11_highSurrogate_5068e_6 : decode cJ11_highSurrogate_5068e 6 = .ok (.iadd, 1) := by decide +kernel
theorem dJ11_highSurrogate_5068e_7 : decode cJ11_highSurrogate_5068e 7 = .ok (.i2c, 1) := by decide +kernel
theorem dJ11_highSurrogate_5068e_8 : decode cJ11_highSurrogate_5068e 8 = .ok (.ireturn, 1) := by decide +kernel
theorem dJ11_lowSurrogate_5068e_0 : decode cJ11_lowSurrogate_5068e 0 = .ok (.iload_n 0, 1) := by decide +kernel
theorem dJ11_lowSurrogate_5068e_1 : decode cJ11_lowSurrogate_5068e 1 = .ok (.sipush 1023, 3) := by decide +kernel
theorem dJ11_lowSurrogate_5068e_4 : decode cJ11_lowSurrogate_5068e 4 = .ok (.iand, 1) := by decide +kernel
theorem dJ11_lowSurrogate_5068e_5 : decode cJ11_lowSurrogate_5068e 5 = .ok (.ldc 76, 2) := by decide +kernel
theorem dJ11_lowSurrogate_5068e_7 : decode cJ11_lowSurrogate_5068e 7 = .ok (.iadd, 1) := by decide +kernel
theorem dJ11_lowSurrogate_5068e_8 : decode cJ11_lowSurrogate_5068e 8 = .ok (.i2c, 1) := by decide +kernel
theorem dJ11_lowSurrogate_5068e_9 : decode cJ11_lowSurrogate_5068e 9 = .ok (.ireturn, 1) := by decide +kernel
theorem dJ6_bitCount_0f7a4_0 : decode cJ6_bitCount_0f7a4 0 = .ok (.iload_n 0, 1) := by decide +kernel
theorem dJ6_bitCount_0f7a4_1 : decode cJ6_bitCount_0f7a4 1 = .ok (.iload_n 0, 1) := by decide +kernel
theorem dJ6_bitCount_0f7a4_2 : decode cJ6_bitCount_0f7a4 2 = .ok (.iconst 1, 1) := by decide +kernel
theorem dJ6_bitCount_0f7a4_3 : decode cJ6_bitCount_0f7a4 3 = .ok (.iushr, 1) := by decide +kernel
theorem dJ6_bitCount_0f7a4_4 : decode cJ6_bitCount_0f7a4 4 = .ok (.ldc_w 265, 3) := by decide +kernel
theorem dJ6_bitCount_0f7a4_7 : decode cJ6_bitCount_0f7a4 7 = .ok (.iand, 1) := by decide +kernel
theorem dJ6_bitCount_0f7a4_8 : decode cJ6_bitCount_0f7a4 8 = .ok (.isub, 1) := by decide +kernel
theorem dJ6_bitCount_0f7a4_9 : decode cJ6_bitCount_0f7a4 9 = .ok (.istore_n 0, 1) := by decide +kernel
theorem dJ6_bitCount_0f7a4_10 : decode cJ6_bitCount_0f7a4 10 = .ok (.iload_n 0, 1) := by decide +kernel
theorem dJ6_bitCount_0f7a4_11 : decode cJ6_bitCount_0f7a4 11 = .ok (.ldc_w 266, 3) := by decide +kernel
theorem dJ6_bitCount_0f7a4_14 : decode cJ6_bitCount_0f7a4 14 = .ok (.iand, 1) := by decide +kernel
theorem dJ6_bitCount_0f7a4_15 : decode cJ6_bitCount_0f7a4 15 = .ok (.iload_n 0, 1) := by decide +kernel
theorem dJ6_bitCount_0f7a4_16 : decode cJ6_bitCount_0f7a4 16 = .ok (.iconst 2, 1) := by decide +kernel
theorem dJ6_bitCount_0f7a4_17 : decode cJ6_bitCount_0f7a4 17 = .ok (.iushr, 1) := by decide +kernel
theorem dJ6_bitCount_0f7a4_18 : decode cJ6_bitCount_0f7a4 18 = .ok (.ldc_w 266, 3) := by decide +kernel
theorem dJ6_bitCount_0f7a4_21 : decode cJ6_bitCount_0f7a4 21 = .ok (.iand, 1) := by decide +kernel
theorem dJ6_bitCount_0f7a4_22 : decode cJ6_bitCount_0f7a4 22 = .ok (.iadd, 1) := by decide +kernel
theorem dJ6_bitCount_0f7a4_23 : decode cJ6_bitCount_0f7a4 23 = .ok (.istore_n 0, 1) := by decide +kernel
theorem dJ6_bitCount_0f7a4_24 : decode cJ6_bitCount_0f7a4 24 = .ok (.iload_n 0, 1) := by decide +kernel
theorem dJ6_bitCount_0f7a4_25 : decode cJ6_bitCount_0f7a4 25 = .ok (.iload_n 0, 1) := by decide +kernel
theorem dJ6_bitCount_0f7a4_26 : decode cJ6_bitCount_0f7a4 26 = .ok (.iconst 4, 1) := by decide +kernel
theorem dJ6_bitCount_0f7a4_27 : decode cJ6_bitCount_0f7a4 27 = .ok (.iushr, 1) := by decide +kernel
theorem dJ6_bitCount_0f7a4_28 : decode cJ6_bitCount_0f7a4 28 = .ok (.iadd, 1) := by decide +kernel
theorem dJ6_bitCount_0f7a4_29 : decode cJ6_bitCount_0f7a4 29 = .ok (.ldc_w 267, 3) := by decide +kernel
theorem dJ6_bitCount_0f7a4_32 : decode cJ6_bitCount_0f7a4 32 = .ok (.iand, 1) := by decide +kernel
theorem dJ6_bitCount_0f7a4_33 : decode cJ6_bitCount_0f7a4 33 = .ok (.istore_n 0, 1) := by decide +kernel
theorem dJ6_bitCount_0f7a4_34 : decode cJ6_bitCount_0f7a4 34 = .ok (.iload_n 0, 1) := by decide +kernel
theorem dJ6_bitCount_0f7a4_35 : decode cJ6_bitCount_0f7a4 35 = .ok (.iload_n 0, 1) := by decide +kernel
theorem dJ6_bitCount_0f7a4_36 : decode cJ6_bitCount_0f7a4 36 = .ok (.bipush 8, 2) := by decide +kernel
theorem dJ6_bitCount_0f7a4_38 : decode cJ6_bitCount_0f7a4 38 = .ok (.iushr, 1) := by decide +kernel
theorem dJ6_bitCount_0f7a4_39 : decode cJ6_bitCount_0f7a4 39 = .ok (.iadd, 1) := by decide +kernel
theorem dJ6_bitCount_0f7a4_40 : decode cJ6_bitCount_0f7a4 40 = .ok (.istore_n 0, 1) := by decide +kernel
theorem dJ6_bitCount_0f7a4_41 : decode cJ6_bitCount_0f7a4 41 = .ok (.iload_n 0, 1) := by decide +kernel
theorem dJ6_bitCount_0f7a4_42 : decode cJ6_bitCount_0f7a4 42 = .ok (.iload_n 0, 1) := by decide +kernel
theorem dJ6_bitCount_0f7a4_43 : decode cJ6_bitCount_0f7a4 43 = .ok (.bipush 16, 2) := by decide +kernel
theorem dJ6_bitCount_0f7a4_45 : decode cJ6_bitCount_0f7a4 45 = .ok (.iushr, 1) := by decide +kernel
theorem dJ6_bitCount_0f7a4_46 : decode cJ6_bitCount_0f7a4 46 = .ok (.iadd, 1) := by decide +kernel
theorem dJ6_bitCount_0f7a4_47 : decode cJ6_bitCount_0f7a4 47 = .ok (.istore_n 0, 1) := by decide +kernel
theorem dJ6_bitCount_0f7a4_48 : decode cJ6_bitCount_0f7a4 48 = .ok (.iload_n 0, 1) := by decide +kernel
theorem dJ6_bitCount_0f7a4_49 : decode cJ6_bitCount_0f7a4 49 = .ok (.bipush 63, 2) := by decide +kernel
theorem dJ6_bitCount_0f7a4_51 : decode cJ6_bitCount_0f7a4 51 = .ok (.iand, 1) := by decide +kernel
theorem dJ6_bitCount_0f7a4_52 : decode cJ6_bitCount_0f7a4 52 = .ok (.ireturn, 1) := by decide +kernel
theorem dJ9_floorMod_7cf53_0 : decode cJ9_floorMod_7cf53 0 = .ok (.iload_n 0, 1) := by decide +kernel
theorem dJ9_floorMod_7cf53_1 : decode cJ9_floorMod_7cf53 1 = .ok (.iload_n 1, 1) := by decide +kernel
theorem dJ9_floorMod_7cf53_2 : decode cJ9_floorMod_7cf53 2 = .ok (.irem, 1) := by decide +kernel
theorem dJ9_floorMod_7cf53_3 : decode cJ9_floorMod_7cf53 3 = .ok (.istore_n 2, 1) := by decide +kernel
theorem dJ9_floorMod_7cf53_4 : decode cJ9_floorMod_7cf53 4 = .ok (.iload_n 0, 1) := by decide +kernel
theorem dJ9_floorMod_7cf53_5 : decode cJ9_floorMod_7cf53 5 = .ok (.iload_n 1, 1) := by decide +kernel
theorem dJ9_floorMod_7cf53_6 : decode cJ9_floorMod_7cf53 6 = .ok (.ixor, 1) := by decide +kernel
theorem dJ9_floorMod_7cf53_7 : decode cJ9_floorMod_7cf53 7 = .ok (.ifCond .ge 11, 3) := by decide +kernel
theorem dJ9_floorMod_7cf53_10 : decode cJ9_floorMod_7cf53 10 = .ok (.iload_n 2, 1) := by decide +kernel
theorem dJ9_floorMod_7cf53_11 : decode cJ9_floorMod_7cf53 11 = .ok (.ifCond .eq 7, 3) := by decide +kernel
theorem dJ9_floorMod_7cf53_14 : decode cJ9_floorMod_7cf53 14 = .ok (.iload_n 2, 1) := by decide +kernel
theorem dJ9_floorMod_7cf53_15 : decode cJ9_floorMod_7cf53 15 = .ok (.iload_n 1, 1) := by decide +kernel
theorem dJ9_floorMod_7cf53_16 : decode cJ9_floorMod_7cf53 16 = .ok (.iadd, 1) := by decide +kernel
theorem dJ9_floorMod_7cf53_17 : decode cJ9_floorMod_7cf53 17 = .ok (.ireturn, 1) := by decide +kernel
theorem dJ9_floorMod_7cf53_18 : decode cJ9_floorMod_7cf53 18 = .ok (.iload_n 2, 1) := by decide +kernel
theorem dJ9_floorMod_7cf53_19 : decode cJ9_floorMod_7cf53 19 = .ok (.ireturn, 1) := by decide +kernel
theorem dJ9_abs_067f4_0 : decode cJ9_abs_067f4 0 = .ok (.lload_n 0, 1) := by decide +kernel
theorem dJ9_abs_067f4_1 : decode cJ9_abs_067f4 1 = .ok (.lconst 0, 1) := by decide +kernel
theorem dJ9_abs_067f4_2 : decode cJ9_abs_067f4 2 = .ok (.lcmp, 1) := by decide +kernel
theorem dJ9_abs_067f4_3 : decode cJ9_abs_067f4 3 = .ok (.ifCond .ge 8, 3) := by decide +kernel
theorem dJ9_abs_067f4_6 : decode cJ9_abs_067f4 6 = .ok (.lload_n 0, 1) := by decide +kernel
theorem dJ9_abs_067f4_7 : decode cJ9_abs_067f4 7 = .ok (.lneg, 1) := by decide +kernel
theorem dJ9_abs_067f4_8 : decode cJ9_abs_067f4 8 = .ok (.goto 4, 3) := by decide +kernel
theorem dJ9_abs_067f4_11 : decode cJ9_abs_067f4 11 = .ok (.lload_n 0, 1) := by decide +kernel
theorem dJ9_abs_067f4_12 : decode cJ9_abs_067f4 12 = .ok (.lreturn, 1) := by decide +kernel
theorem dJ9_max_7cf53_0 : decode cJ9_max_7cf53 0 = .ok (.iload_n 0, 1) := by decide +kernel
theorem dJ9_max_7cf53_1 : decode cJ9_max_7cf53 1 = .ok (.iload_n 1, 1) := by decide +kernel
theorem dJ9_max_7cf53_2 : decode cJ9_max_7cf53 2 = .ok (.if_icmp .lt 7, 3) := by decide +kernel
theorem dJ9_max_7cf53_5 : decode cJ9_max_7cf53 5 = .ok (.iload_n 0, 1) := by decide +kernel
theorem dJ9_max_7cf53_6 : decode cJ9_max_7cf53 6 = .ok (.goto 4, 3) := by decide +kernel
theorem dJ9_max_7cf53_9 : decode cJ9_max_7cf53 9 = .ok (.iload_n 1, 1) := by decide +kernel
theorem dJ9_max_7cf53_10 : decode cJ9_max_7cf53 10 = .ok (.ireturn, 1) := by decide +kernel
theorem dJ9_min_7cf53_0 : decode cJ9_min_7cf53 0 = .ok (.iload_n 0, 1) := by decide +kernel
theorem dJ9_min_7cf53_1 : decode cJ9_min_7cf53 1 = .ok (.iload_n 1, 1) := by decide +kernel
theorem dJ9_min_7cf53_2 : decode cJ9_min_7cf53 2 = .ok (.if_icmp .gt 7, 3) := by decide +kernel
theorem dJ9_min_7cf53_5 : decode cJ9_min_7cf53 5 = .ok (.iload_n 0, 1) := by decide +kernel
theorem dJ9_min_7cf53_6 : decode cJ9_min_7cf53 6 = .ok (.goto 4, 3) := by decide +kernel
theorem dJ9_min_7cf53_9 : decode cJ9_min_7cf53 9 = .ok (.iload_n 1, 1) := by decide +kernel
theorem dJ9_min_7cf53_10 : decode cJ9_min_7cf53 10 = .ok (.ireturn, 1) := by decide +kernel
theorem dJ0_length_8abf5_0 : decode cJ0_length_8abf5 0 = .ok (.aload_n 0, 1) := by decide +kernel
theorem dJ0_length_8abf5_1 : decode cJ0_length_8abf5 1 = .ok (.getfield 9, 3) := by decide +kernel
theorem dJ0_length_8abf5_4 : decode cJ0_length_8abf5 4 = .ok (.arraylength, 1) := by decide +kernel
theorem dJ0_length_8abf5_5 : decode cJ0_length_8abf5 5 = .ok (.aload_n 0, 1) := by decide +kernel
theorem dJ0_length_8abf5_6 : decode cJ0_length_8abf5 6 = .ok (.invokevirtual 335, 3) := by decide +kernel
theorem dJ0_length_8abf5_9 : decode cJ0_length_8abf5 9 = .ok (.ishr, 1) := by decide +kernel
theorem dJ0_length_8abf5_10 : decode cJ0_length_8abf5 10 = .ok (.ireturn, 1) := by decide +kernel
theorem dJ0_indexOf_0f7a4_0 : decode cJ0_indexOf_0f7a4 0 = .ok (.aload_n 0, 1) := by decide +kernel
theorem dJ0_indexOf_0f7a4_1 : decode cJ0_indexOf_0f7a4 1 = .ok (.iload_n 1, 1) := by decide +kernel
theorem dJ0_indexOf_0f7a4_2 : decode cJ0_indexOf_0f7a4 2 = .ok (.iconst 0, 1) := by decide +kernel
theorem dJ0_indexOf_0f7a4_3 : decode cJ0_indexOf_0f7a4 3 = .ok (.invokevirtual 633, 3) := by decide +kernel
theorem dJ0_indexOf_0f7a4_6 : decode cJ0_indexOf_0f7a4 6 = .ok (.ireturn, 1) := by decide +kernel
theorem dJ0_indexOf_7cf53_0 : decode cJ0_indexOf_7cf53 0 = .ok (.aload_n 0, 1) := by decide +kernel
theorem dJ0_indexOf_7cf53_1 : decode cJ0_indexOf_7cf53 1 = .ok (.invokevirtual 492, 3) := by decide +kernel
theorem dJ0_indexOf_7cf53_4 : decode cJ0_indexOf_7cf53 4 = .ok (.ifCond .eq 19, 3) := by decide +kernel
theorem dJ0_indexOf_7cf53_7 : decode cJ0_indexOf_7cf53 7 = .ok (.aload_n 0, 1) := by decide +kernel
theorem dJ0_indexOf_7cf53_8 : decode cJ0_indexOf_7cf53 8 = .ok (.getfield 9, 3) := by decide +kernel
theorem dJ0_indexOf_7cf53_11 : decode cJ0_indexOf_7cf53 11 = .ok (.iload_n 1, 1) := by decide +kernel
theorem dJ0_indexOf_7cf53_12 : decode cJ0_indexOf_7cf53 12 = .ok (.iload_n 2, 1) := by decide +kernel
theorem dJ0_indexOf_7cf53_13 : decode cJ0_indexOf_7cf53 13 = .ok (.aload_n 0, 1) := by decide +kernel
theorem dJ0_indexOf_7cf53_14 : decode cJ0_indexOf_7cf53 14 = .ok (.invokevirtual 505, 3) := by decide +kernel
theorem dJ0_indexOf_7cf53_17 : decode cJ0_indexOf_7cf53 17 = .ok (.invokestatic 637, 3) := by decide +kernel
theorem dJ0_indexOf_7cf53_20 : decode cJ0_indexOf_7cf53 20 = .ok (.goto 16, 3) := by decide +kernel
theorem dJ0_indexOf_7cf53_23 : decode cJ0_indexOf_7cf53 23 = .ok (.aload_n 0, 1) := by decide +kernel
theorem dJ0_indexOf_7cf53_24 : decode cJ0_indexOf_7cf53 24 = .ok (.getfield 9, 3) := by decide +kernel
theorem dJ0_indexOf_7cf53_27 : decode cJ0_indexOf_7cf53 27 = .ok (.iload_n 1, 1) := by decide +kernel
theorem dJ0_indexOf_7cf53_28 : decode cJ0_indexOf_7cf53 28 = .ok (.iload_n 2, 1) := by decide +kernel
theorem dJ0_indexOf_7cf53_29 : decode cJ0_indexOf_7cf53 29 = .ok (.aload_n 0, 1) := by decide +kernel
theorem dJ0_indexOf_7cf53_30 : decode cJ0_indexOf_7cf53 30 = .ok (.invokevirtual 505, 3) := by decide +kernel
theorem dJ0_indexOf_7cf53_33 : decode cJ0_indexOf_7cf53 33 = .ok (.invokestatic 640, 3) := by decide +kernel
theorem dJ0_indexOf_7cf53_36 : decode cJ0_indexOf_7cf53 36 = .ok (.ireturn, 1) := by decide +kernel
theorem dJ0_coder_7d493_0 : decode cJ0_coder_7d493 0 = .ok (.getstatic 38, 3) := by decide +kernel
theorem dJ0_coder_7d493_3 : decode cJ0_coder_7d493 3 = .ok (.ifCond .eq 10, 3) := by decide +kernel
theorem dJ0_coder_7d493_6 : decode cJ0_coder_7d493 6 = .ok (.aload_n 0, 1) := by decide +kernel
theorem dJ0_coder_7d493_7 : decode cJ0_coder_7d493 7 = .ok (.getfield 15, 3) := by decide +kernel
theorem dJ0_coder_7d493_10 : decode cJ0_coder_7d493 10 = .ok (.goto 4, 3) := by decide +kernel
theorem dJ0_coder_7d493_13 : decode cJ0_coder_7d493 13 = .ok (.iconst 1, 1) := by decide +kernel
theorem dJ0_coder_7d493_14 : decode cJ0_coder_7d493 14 = .ok (.ireturn, 1) := by decide +kernel
theorem dJ0_isLatin1_aae02_0 : decode cJ0_isLatin1_aae02 0 = .ok (.getstatic 38, 3) := by decide +kernel
theorem dJ0_isLatin1_aae02_3 : decode cJ0_isLatin1_aae02 3 = .ok (.ifCond .eq 14, 3) := by decide +kernel
theorem dJ0_isLatin1_aae02_6 : decode cJ0_isLatin1_aae02 6 = .ok (.aload_n 0, 1) := by decide +kernel
theorem dJ0_isLatin1_aae02_7 : decode cJ0_isLatin1_aae02 7 = .ok (.getfield 15, 3) := by decide +kernel
theorem dJ0_isLatin1_aae02_10 : decode cJ0_isLatin1_aae02 10 = .ok (.ifCond .ne 7, 3) := by decide +kernel
theorem dJ0_isLatin1_aae02_13 : decode cJ0_isLatin1_aae02 13 = .ok (.iconst 1, 1) := by decide +kernel
theorem dJ0_isLatin1_aae02_14 : decode cJ0_isLatin1_aae02 14 = .ok (.goto 4, 3) := by decide +kernel
theorem dJ0_isLatin1_aae02_17 : decode cJ0_isLatin1_aae02 17 = .ok (.iconst 0, 1) := by decide +kernel
theorem dJ0_isLatin1_aae02_18 : decode cJ0_isLatin1_aae02 18 = .ok (.ireturn, 1) := by decide +kernel
theorem dJ0_checkBoundsBeginEnd_23922_0 : decode cJ0_checkBoundsBeginEnd_23922 0 = .ok (.iload_n 0, 1) := by decide +kernel
theorem dJ0_checkBoundsBeginEnd_23922_1 : decode cJ0_checkBoundsBeginEnd_23922 1 = .ok (.iload_n 1, 1) := by decide +kernel
theorem dJ0_checkBoundsBeginEnd_23922_2 : decode cJ0_checkBoundsBeginEnd_23922 2 = .ok (.iload_n 2, 1) := by decide +kernel
theorem dJ0_checkBoundsBeginEnd_23922_3 : decode cJ0_checkBoundsBeginEnd_23922 3 = .ok (.getstatic 1053, 3) := by decide +kernel
theorem dJ0_checkBoundsBeginEnd_23922_6 : decode cJ0_checkBoundsBeginEnd_23922 6 = .ok (.invokestatic 1062, 3) := by decide +kernel
theorem dJ0_checkBoundsBeginEnd_23922_9 : decode cJ0_checkBoundsBeginEnd_23922 9 = .ok (.pop, 1) := by decide +kernel
theorem dJ0_checkBoundsBeginEnd_23922_10 : decode cJ0_checkBoundsBeginEnd_23922 10 = .ok (.return_, 1) := by decide +kernel
theorem dJ1_canEncode_9a6ad_0 : decode cJ1_canEncode_9a6ad 0 = .ok (.iload_n 0, 1) := by decide +kernel
theorem dJ1_canEncode_9a6ad_1 : decode cJ1_canEncode_9a6ad 1 = .ok (.ifCond .lt 14, 3) := by decide +kernel
theorem dJ1_canEncode_9a6ad_4 : decode cJ1_canEncode_9a6ad 4 = .ok (.iload_n 0, 1) := by decide +kernel
theorem dJ1_canEncode_9a6ad_5 : decode cJ1_canEncode_9a6ad 5 = .ok (.sipush 255, 3) := by decide +kernel
theorem dJ1_canEncode_9a6ad_8 : decode cJ1_canEncode_9a6ad 8 = .ok (.if_icmp .gt 7, 3) := by decide +kernel
theorem dJ1_canEncode_9a6ad_11 : decode cJ1_canEncode_9a6ad 11 = .ok (.iconst 1, 1) := by decide +kernel
theorem dJ1_canEncode_9a6ad_12 : decode cJ1_canEncode_9a6ad 12 = .ok (.goto 4, 3) := by decide +kernel
theorem dJ1_canEncode_9a6ad_15 : decode cJ1_canEncode_9a6ad 15 = .ok (.iconst 0, 1) := by decide +kernel
theorem dJ1_canEncode_9a6ad_16 : decode cJ1_canEncode_9a6ad 16 = .ok (.ireturn, 1) := by decide +kernel
theorem dJ1_indexOf_4cfef_0 : decode cJ1_indexOf_4cfef 0 = .ok (.iload_n 1, 1) := by decide +kernel
theorem dJ1_indexOf_4cfef_1 : decode cJ1_indexOf_4cfef 1 = .ok (.invokestatic 88, 3) := by decide +kernel
theorem dJ1_indexOf_4cfef_4 : decode cJ1_indexOf_4cfef 4 = .ok (.ifCond .ne 5, 3) := by decide +kernel
theorem dJ1_indexOf_4cfef_7 : decode cJ1_indexOf_4cfef 7 = .ok (.iconst (-1), 1) := by decide +kernel
theorem dJ1_indexOf_4cfef_8 : decode cJ1_indexOf_4cfef 8 = .ok (.ireturn, 1) := by decide +kernel
theorem dJ1_indexOf_4cfef_9 : decode cJ1_indexOf_4cfef 9 = .ok (.iload_n 2, 1) := by decide +kernel
theorem dJ1_indexOf_4cfef_10 : decode cJ1_indexOf_4cfef 10 = .ok (.iconst 0, 1) := by decide +kernel
theorem dJ1_indexOf_4cfef_11 : decode cJ1_indexOf_4cfef 11 = .ok (.invokestatic 92, 3) := by decide +kernel
theorem dJ1_indexOf_4cfef_14 : decode cJ1_indexOf_4cfef 14 = .ok (.istore_n 2, 1) := by decide +kernel
theorem dJ1_indexOf_4cfef_15 : decode cJ1_indexOf_4cfef 15 = .ok (.iload_n 3, 1) := by decide +kernel
theorem dJ1_indexOf_4cfef_16 : decode cJ1_indexOf_4cfef 16 = .ok (.aload_n 0, 1) := by decide +kernel
theorem dJ1_indexOf_4cfef_17 : decode cJ1_indexOf_4cfef 17 = .ok (.arraylength, 1) := by decide +kernel
theorem dJ1_indexOf_4cfef_18 : decode cJ1_indexOf_4cfef 18 = .ok (.invokestatic 38, 3) := by decide +kernel
theorem dJ1_indexOf_4cfef_21 : decode cJ1_indexOf_4cfef 21 = .ok (.istore_n 3, 1) := by decide +kernel
theorem dJ1_indexOf_4cfef_22 : decode cJ1_indexOf_4cfef 22 = .ok (.iload_n 2, 1) := by decide +kernel
theorem dJ1_indexOf_4cfef_23 : decode cJ1_indexOf_4cfef 23 = .ok (.iload_n 3, 1) := by decide +kernel
theorem dJ1_indexOf_4cfef_24 : decode cJ1_indexOf_4cfef 24 = .ok (.if_icmp .lt 5, 3) := by decide +kernel
theorem dJ1_indexOf_4cfef_27 : decode cJ1_indexOf_4cfef 27 = .ok (.iconst (-1), 1) := by decide +kernel
theorem dJ1_indexOf_4cfef_28 : decode cJ1_indexOf_4cfef 28 = .ok (.ireturn, 1) := by decide +kernel
theorem dJ1_indexOf_4cfef_29 : decode cJ1_indexOf_4cfef 29 = .ok (.aload_n 0, 1) := by decide +kernel
theorem dJ1_indexOf_4cfef_30 : decode cJ1_indexOf_4cfef 30 = .ok (.iload_n 1, 1) := by decide +kernel
theorem dJ1_indexOf_4cfef_31 : decode cJ1_indexOf_4cfef 31 = .ok (.iload_n 2, 1) := by decide +kernel
theorem dJ1_indexOf_4cfef_32 : decode cJ1_indexOf_4cfef 32 = .ok (.iload_n 3, 1) := by decide +kernel
theorem dJ1_indexOf_4cfef_33 : decode cJ1_indexOf_4cfef 33 = .ok (.invokestatic 95, 3) := by decide +kernel
theorem dJ1_indexOf_4cfef_36 : decode cJ1_indexOf_4cfef 36 = .ok (.ireturn, 1) := by decide +kernel
theorem dJ1_indexOfChar_4cfef_0 : decode cJ1_indexOfChar_4cfef 0 = .ok (.iload_n 1, 1) := by decide +kernel
theorem dJ1_indexOfChar_4cfef_1 : decode cJ1_indexOfChar_4cfef 1 = .ok (.i2b, 1) := by decide +kernel
theorem dJ1_indexOfChar_4cfef_2 : decode cJ1_indexOfChar_4cfef 2 = .ok (.istore 4, 2) := by decide +kernel
theorem dJ1_indexOfChar_4cfef_4 : decode cJ1_indexOfChar_4cfef 4 = .ok (.iload_n 2, 1) := by decide +kernel
theorem dJ1_indexOfChar_4cfef_5 : decode cJ1_indexOfChar_4cfef 5 = .ok (.istore 5, 2) := by decide +kernel
theorem dJ1_indexOfChar_4cfef_7 : decode cJ1_indexOfChar_4cfef 7 = .ok (.iload 5, 2) := by decide +kernel
theorem dJ1_indexOfChar_4cfef_9 : decode cJ1_indexOfChar_4cfef 9 = .ok (.iload_n 3, 1) := by decide +kernel
theorem dJ1_indexOfChar_4cfef_10 : decode cJ1_indexOfChar_4cfef 10 = .ok (.if_icmp .ge 21, 3) := by decide +kernel
theorem dJ1_indexOfChar_4cfef_13 : decode cJ1_indexOfChar_4cfef 13 = .ok (.aload_n 0, 1) := by decide +kernel
theorem dJ1_indexOfChar_4cfef_14 : decode cJ1_indexOfChar_4cfef 14 = .ok (.iload 5, 2) := by decide +kernel
theorem dJ1_indexOfChar_4cfef_16 : decode cJ1_indexOfChar_4cfef 16 = .ok (.baload, 1) := by decide +kernel
theorem dJ1_indexOfChar_4cfef_17 : decode cJ1_indexOfChar_4cfef 17 = .ok (.iload 4, 2) := by decide +kernel
theorem dJ1_indexOfChar_4cfef_19 : decode cJ1_indexOfChar_4cfef 19 = .ok (.if_icmp .ne 6, 3) := by decide +kernel
theorem dJ1_indexOfChar_4cfef_22 : decode cJ1_indexOfChar_4cfef 22 = .ok (.iload 5, 2) := by decide +kernel
theorem dJ1_indexOfChar_4cfef_24 : decode cJ1_indexOfChar_4cfef 24 = .ok (.ireturn, 1) := by decide +kernel
theorem dJ1_indexOfChar_4cfef_25 : decode cJ1_indexOfChar_4cfef 25 = .ok (.iinc 5 1, 3) := by decide +kernel
theorem dJ1_indexOfChar_4cfef_28 : decode cJ1_indexOfChar_4cfef 28 = .ok (.goto (-21), 3) := by decide +kernel
theorem dJ1_indexOfChar_4cfef_31 : decode cJ1_indexOfChar_4cfef 31 = .ok (.iconst (-1), 1) := by decide +kernel
theorem dJ1_indexOfChar_4cfef_32 : decode cJ1_indexOfChar_4cfef 32 = .ok (.ireturn, 1) := by decide +kernel
theorem dJ2_getChar_3b067_0 : decode cJ2_getChar_3b067 0 = .ok (.getstatic 44, 3) := by decide +kernel
theorem dJ2_getChar_3b067_3 : decode cJ2_getChar_3b067 3 = .ok (.ifCond .ne 25, 3) := by decide +kernel
theorem dJ2_getChar_3b067_6 : decode cJ2_getChar_3b067 6 = .ok (.iload_n 1, 1) := by decide +kernel
theorem dJ2_getChar_3b067_7 : decode cJ2_getChar_3b067 7 = .ok (.ifCond .lt 11, 3) := by decide +kernel
theorem dJ2_getChar_3b067_10 : decode cJ2_getChar_3b067 10 = .ok (.iload_n 1, 1) := by decide +kernel
theorem dJ2_getChar_3b067_11 : decode cJ2_getChar_3b067 11 = .ok (.aload_n 0, 1) := by decide +kernel
theorem dJ2_getChar_3b067_12 : decode cJ2_getChar_3b067 12 = .ok (.invokestatic 48, 3) := by decide +kernel
theorem dJ2_getChar_3b067_15 : decode cJ2_getChar_3b067 15 = .ok (.if_icmp .lt 13, 3) := by decide +kernel
theorem dJ2_getChar_3b067_18 : decode cJ2_getChar_3b067 18 = .ok (.new 52, 3) := by decide +kernel
theorem dJ2_getChar_3b067_21 : decode cJ2_getChar_3b067 21 = .ok (.dup, 1) := by decide +kernel
theorem dJ2_getChar_3b067_22 : decode cJ2_getChar_3b067 22 = .ok (.ldc 54, 2) := by decide +kernel
theorem dJ2_getChar_3b067_24 : decode cJ2_getChar_3b067 24 = .ok (.invokespecial 56, 3) := by decide +kernel
theorem dJ2_getChar_3b067_27 : decode cJ2_getChar_3b067 27 = .ok (.athrow, 1) := by decide +kernel
theorem dJ2_getChar_3b067_28 : decode cJ2_getChar_3b067 28 = .ok (.iload_n 1, 1) := by decide +kernel
theorem dJ2_getChar_3b067_29 : decode cJ2_getChar_3b067 29 = .ok (.iconst 1, 1) := by decide +kernel
theorem dJ2_getChar_3b067_30 : decode cJ2_getChar_3b067 30 = .ok (.ishl, 1) := by decide +kernel
theorem dJ2_getChar_3b067_31 : decode cJ2_getChar_3b067 31 = .ok (.istore_n 1, 1) := by decide +kernel
theorem dJ2_getChar_3b067_32 : decode cJ2_getChar_3b067 32 = .ok (.aload_n 0, 1) := by decide +kernel
theorem dJ2_getChar_3b067_33 : decode cJ2_getChar_3b067 33 = .ok (.iload_n 1, 1) := by decide +kernel
theorem dJ2_getChar_3b067_34 : decode cJ2_getChar_3b067 34 = .ok (.iinc 1 1, 3) := by decide +kernel
theorem dJ2_getChar_3b067_37 : decode cJ2_getChar_3b067 37 = .ok (.baload, 1) := by decide +kernel
theorem dJ2_getChar_3b067_38 : decode cJ2_getChar_3b067 38 = .ok (.sipush 255, 3) := by decide +kernel
theorem dJ2_getChar_3b067_41 : decode cJ2_getChar_3b067 41 = .ok (.iand, 1) := by decide +kernel
theorem dJ2_getChar_3b067_42 : decode cJ2_getChar_3b067 42 = .ok (.getstatic 59, 3) := by decide +kernel
theorem dJ2_getChar_3b067_45 : decode cJ2_getChar_3b067 45 = .ok (.ishl, 1) := by decide +kernel
theorem dJ2_getChar_3b067_46 : decode cJ2_getChar_3b067 46 = .ok (.aload_n 0, 1) := by decide +kernel
theorem dJ2_getChar_3b067_47 : decode cJ2_getChar_3b067 47 = .ok (.iload_n 1, 1) := by decide +kernel
theorem dJ2_getChar_3b067_48 : decode cJ2_getChar_3b067 48 = .ok (.baload, 1) := by decide +kernel
theorem dJ2_getChar_3b067_49 : decode cJ2_getChar_3b067 49 = .ok (.sipush 255, 3) := by decide +kernel
theorem dJ2_getChar_3b067_52 : decode cJ2_getChar_3b067 52 = .ok (.iand, 1) := by decide +kernel
theorem dJ2_getChar_3b067_53 : decode cJ2_getChar_3b067 53 = .ok (.getstatic 63, 3) := by decide +kernel
theorem dJ2_getChar_3b067_56 : decode cJ2_getChar_3b067 56 = .ok (.ishl, 1) := by decide +kernel
theorem dJ2_getChar_3b067_57 : decode cJ2_getChar_3b067 57 = .ok (.ior, 1) := by decide +kernel
theorem dJ2_getChar_3b067_58 : decode cJ2_getChar_3b067 58 = .ok (.i2c, 1) := by decide +kernel
theorem dJ2_getChar_3b067_59 : decode cJ2_getChar_3b067 59 = .ok (.ireturn, 1) := by decide +kernel
theorem dJ2_length_9d52b_0 : decode cJ2_length_9d52b 0 = .ok (.aload_n 0, 1) := by decide +kernel
theorem dJ2_length_9d52b_1 : decode cJ2_length_9d52b 1 = .ok (.arraylength, 1) := by decide +kernel
theorem dJ2_length_9d52b_2 : decode cJ2_length_9d52b 2 = .ok (.iconst 1, 1) := by decide +kernel
theorem dJ2_length_9d52b_3 : decode cJ2_length_9d52b 3 = .ok (.ishr, 1) := by decide +kernel
theorem dJ2_length_9d52b_4 : decode cJ2_length_9d52b 4 = .ok (.ireturn, 1) := by decide +kernel
theorem dJ2_indexOf_4cfef_0 : decode cJ2_indexOf_4cfef 0 = .ok (.iload_n 2, 1) := by decide +kernel
theorem dJ2_indexOf_4cfef_1 : decode cJ2_indexOf_4cfef 1 = .ok (.iconst 0, 1) := by decide +kernel
theorem dJ2_indexOf_4cfef_2 : decode cJ2_indexOf_4cfef 2 = .ok (.invokestatic 224, 3) := by decide +kernel
theorem dJ2_indexOf_4cfef_5 : decode cJ2_indexOf_4cfef 5 = .ok (.istore_n 2, 1) := by decide +kernel
theorem dJ2_indexOf_4cfef_6 : decode cJ2_indexOf_4cfef 6 = .ok (.iload_n 3, 1) := by decide +kernel
theorem dJ2_indexOf_4cfef_7 : decode cJ2_indexOf_4cfef 7 = .ok (.aload_n 0, 1) := by decide +kernel
theorem dJ2_indexOf_4cfef_8 : decode cJ2_indexOf_4cfef 8 = .ok (.arraylength, 1) := by decide +kernel
theorem dJ2_indexOf_4cfef_9 : decode cJ2_indexOf_4cfef 9 = .ok (.iconst 1, 1) := by decide +kernel
theorem dJ2_indexOf_4cfef_10 : decode cJ2_indexOf_4cfef 10 = .ok (.ishr, 1) := by decide +kernel
theorem dJ2_indexOf_4cfef_11 : decode cJ2_indexOf_4cfef 11 = .ok (.invokestatic 183, 3) := by decide +kernel
theorem dJ2_indexOf_4cfef_14 : decode cJ2_indexOf_4cfef 14 = .ok (.istore_n 3, 1) := by decide +kernel
theorem dJ2_indexOf_4cfef_15 : decode cJ2_indexOf_4cfef 15 = .ok (.iload_n 2, 1) := by decide +kernel
theorem dJ2_indexOf_4cfef_16 : decode cJ2_indexOf_4cfef 16 = .ok (.iload_n 3, 1) := by decide +kernel
theorem dJ2_indexOf_4cfef_17 : decode cJ2_indexOf_4cfef 17 = .ok (.if_icmp .lt 5, 3) := by decide +kernel
theorem dJ2_indexOf_4cfef_20 : decode cJ2_indexOf_4cfef 20 = .ok (.iconst (-1), 1) := by decide +kernel
theorem dJ2_indexOf_4cfef_21 : decode cJ2_indexOf_4cfef 21 = .ok (.ireturn, 1) := by decide +kernel
theorem dJ2_indexOf_4cfef_22 : decode cJ2_indexOf_4cfef 22 = .ok (.iload_n 1, 1) := by decide +kernel
theorem dJ2_indexOf_4cfef_23 : decode cJ2_indexOf_4cfef 23 = .ok (.ldc 227, 2) := by decide +kernel
theorem dJ2_indexOf_4cfef_25 : decode cJ2_indexOf_4cfef 25 = .ok (.if_icmp .ge 11, 3) := by decide +kernel
theorem dJ2_indexOf_4cfef_28 : decode cJ2_indexOf_4cfef 28 = .ok (.aload_n 0, 1) := by decide +kernel
theorem dJ2_indexOf_4cfef_29 : decode cJ2_indexOf_4cfef 29 = .ok (.iload_n 1, 1) := by decide +kernel
theorem dJ2_indexOf_4cfef_30 : decode cJ2_indexOf_4cfef 30 = .ok (.iload_n 2, 1) := by decide +kernel
theorem dJ2_indexOf_4cfef_31 : decode cJ2_indexOf_4cfef 31 = .ok (.iload_n 3, 1) := by decide +kernel
theorem dJ2_indexOf_4cfef_32 : decode cJ2_indexOf_4cfef 32 = .ok (.invokestatic 228, 3) := by decide +kernel
theorem dJ2_indexOf_4cfef_35 : decode cJ2_indexOf_4cfef 35 = .ok (.ireturn, 1) := by decide +kernel
theorem dJ2_indexOf_4cfef_36 : decode cJ2_indexOf_4cfef 36 = .ok (.aload_n 0, 1) := by decide +kernel
theorem dJ2_indexOf_4cfef_37 : decode cJ2_indexOf_4cfef 37 = .ok (.iload_n 1, 1) := by decide +kernel
theorem dJ2_indexOf_4cfef_38 : decode cJ2_indexOf_4cfef 38 = .ok (.iload_n 2, 1) := by decide +kernel
theorem dJ2_indexOf_4cfef_39 : decode cJ2_indexOf_4cfef 39 = .ok (.iload_n 3, 1) := by decide +kernel
theorem dJ2_indexOf_4cfef_40 : decode cJ2_indexOf_4cfef 40 = .ok (.invokestatic 232, 3) := by decide +kernel
theorem dJ2_indexOf_4cfef_43 : decode cJ2_indexOf_4cfef 43 = .ok (.ireturn, 1) := by decide +kernel
theorem dJ2_indexOfChar_4cfef_0 : decode cJ2_indexOfChar_4cfef 0 = .ok (.iload_n 2, 1) := by decide +kernel
theorem dJ2_indexOfChar_4cfef_1 : decode cJ2_indexOfChar_4cfef 1 = .ok (.iload_n 3, 1) := by decide +kernel
theorem dJ2_indexOfChar_4cfef_2 : decode cJ2_indexOfChar_4cfef 2 = .ok (.aload_n 0, 1) := by decide +kernel
theorem dJ2_indexOfChar_4cfef_3 : decode cJ2_indexOfChar_4cfef 3 = .ok (.invokestatic 96, 3) := by decide +kernel
theorem dJ2_indexOfChar_4cfef_6 : decode cJ2_indexOfChar_4cfef 6 = .ok (.aload_n 0, 1) := by decide +kernel
theorem dJ2_indexOfChar_4cfef_7 : decode cJ2_indexOfChar_4cfef 7 = .ok (.iload_n 1, 1) := by decide +kernel
theorem dJ2_indexOfChar_4cfef_8 : decode cJ2_indexOfChar_4cfef 8 = .ok (.iload_n 2, 1) := by decide +kernel
theorem dJ2_indexOfChar_4cfef_9 : decode cJ2_indexOfChar_4cfef 9 = .ok (.iload_n 3, 1) := by decide +kernel
theorem dJ2_indexOfChar_4cfef_10 : decode cJ2_indexOfChar_4cfef 10 = .ok (.invokestatic 244, 3) := by decide +kernel
theorem dJ2_indexOfChar_4cfef_13 : decode cJ2_indexOfChar_4cfef 13 = .ok (.ireturn, 1) := by decide +kernel
theorem dJ2_indexOfCharUnsafe_4cfef_0 : decode cJ2_indexOfCharUnsafe_4cfef 0 = .ok (.iload_n 2, 1) := by decide +kernel
theorem dJ2_indexOfCharUnsafe_4cfef_1 : decode cJ2_indexOfCharUnsafe_4cfef 1 = .ok (.istore 4, 2) := by decide +kernel
theorem dJ2_indexOfCharUnsafe_4cfef_3 : decode cJ2_indexOfCharUnsafe_4cfef 3 = .ok (.iload 4, 2) := by decide +kernel
theorem dJ2_indexOfCharUnsafe_4cfef_5 : decode cJ2_indexOfCharUnsafe_4cfef 5 = .ok (.iload_n 3, 1) := by decide +kernel
theorem dJ2_indexOfCharUnsafe_4cfef_6 : decode cJ2_indexOfCharUnsafe_4cfef 6 = .ok (.if_icmp .ge 22, 3) := by decide +kernel
theorem dJ2_indexOfCharUnsafe_4cfef_9 : decode cJ2_indexOfCharUnsafe_4cfef 9 = .ok (.aload_n 0, 1) := by decide +kernel
theorem dJ2_indexOfCharUnsafe_4cfef_10 : decode cJ2_indexOfCharUnsafe_4cfef 10 = .ok (.iload 4, 2) := by decide +kernel
theorem dJ2_indexOfCharUnsafe_4cfef_12 : decode cJ2_indexOfCharUnsafe_4cfef 12 = .ok (.invokestatic 71, 3) := by decide +kernel
theorem dJ2_indexOfCharUnsafe_4cfef_15 : decode cJ2_indexOfCharUnsafe_4cfef 15 = .ok (.iload_n 1, 1) := by decide +kernel
theorem dJ2_indexOfCharUnsafe_4cfef_16 : decode cJ2_indexOfCharUnsafe_4cfef 16 = .ok (.if_icmp .ne 6, 3) := by decide +kernel
theorem dJ2_indexOfCharUnsafe_4cfef_19 : decode cJ2_indexOfCharUnsafe_4cfef 19 = .ok (.iload 4, 2) := by decide +kernel
theorem dJ2_indexOfCharUnsafe_4cfef_21 : decode cJ2_indexOfCharUnsafe_4cfef 21 = .ok (.ireturn, 1) := by decide +kernel
theorem dJ2_indexOfCharUnsafe_4cfef_22 : decode cJ2_indexOfCharUnsafe_4cfef 22 = .ok (.iinc 4 1, 3) := by decide +kernel
theorem dJ2_indexOfCharUnsafe_4cfef_25 : decode cJ2_indexOfCharUnsafe_4cfef 25 = .ok (.goto (-22), 3) := by decide +kernel
theorem dJ2_indexOfCharUnsafe_4cfef_28 : decode cJ2_indexOfCharUnsafe_4cfef 28 = .ok (.iconst (-1), 1) := by decide +kernel
theorem dJ2_indexOfCharUnsafe_4cfef_29 : decode cJ2_indexOfCharUnsafe_4cfef 29 = .ok (.ireturn, 1) := by decide +kernel
theorem dJ2_indexOfSupplementary_4cfef_0 : decode cJ2_indexOfSupplementary_4cfef 0 = .ok (.iload_n 1, 1) := by decide +kernel
theorem dJ2_indexOfSupplementary_4cfef_1 : decode cJ2_indexOfSupplementary_4cfef 1 = .ok (.invokestatic 164, 3) := by decide +kernel
theorem dJ2_indexOfSupplementary_4cfef_4 : decode cJ2_indexOfSupplementary_4cfef 4 = .ok (.ifCond .eq 65, 3) := by decide +kernel
theorem dJ2_indexOfSupplementary_4cfef_7 : decode cJ2_indexOfSupplementary_4cfef 7 = .ok (.iload_n 1, 1) := by decide +kernel
theorem dJ2_indexOfSupplementary_4cfef_8 : decode cJ2_indexOfSupplementary_4cfef 8 = .ok (.invokestatic 157, 3) := by decide +kernel
theorem dJ2_indexOfSupplementary_4cfef_11 : decode cJ2_indexOfSupplementary_4cfef 11 = .ok (.istore 4, 2) := by decide +kernel
theorem dJ2_indexOfSupplementary_4cfef_13 : decode cJ2_indexOfSupplementary_4cfef 13 = .ok (.iload_n 1, 1) := by decide +kernel
theorem dJ2_indexOfSupplementary_4cfef_14 : decode cJ2_indexOfSupplementary_4cfef 14 = .ok (.invokestatic 161, 3) := by decide +kernel
theorem dJ2_indexOfSupplementary_4cfef_17 : decode cJ2_indexOfSupplementary_4cfef 17 = .ok (.istore 5, 2) := by decide +kernel
theorem dJ2_indexOfSupplementary_4cfef_19 : decode cJ2_indexOfSupplementary_4cfef 19 = .ok (.iload_n 2, 1) := by decide +kernel
theorem dJ2_indexOfSupplementary_4cfef_20 : decode cJ2_indexOfSupplementary_4cfef 20 = .ok (.iload_n 3, 1) := by decide +kernel
theorem dJ2_indexOfSupplementary_4cfef_21 : decode cJ2_indexOfSupplementary_4cfef 21 = .ok (.aload_n 0, 1) := by decide +kernel
theorem dJ2_indexOfSupplementary_4cfef_22 : decode cJ2_indexOfSupplementary_4cfef 22 = .ok (.invokestatic 96, 3) := by decide +kernel
theorem dJ2_indexOfSupplementary_4cfef_25 : decode cJ2_indexOfSupplementary_4cfef 25 = .ok (.iload_n 2, 1) := by decide +kernel
theorem dJ2_indexOfSupplementary_4cfef_26 : decode cJ2_indexOfSupplementary_4cfef 26 = .ok (.istore 6, 2) := by decide +kernel
theorem dJ2_indexOfSupplementary_4cfef_28 : decode cJ2_indexOfSupplementary_4cfef 28 = .ok (.iload 6, 2) := by decide +kernel
theorem dJ2_indexOfSupplementary_4cfef_30 : decode cJ2_indexOfSupplementary_4cfef 30 = .ok (.iload_n 3, 1) := by decide +kernel
theorem dJ2_indexOfSupplementary_4cfef_31 : decode cJ2_indexOfSupplementary_4cfef 31 = .ok (.iconst 1, 1) := by decide +kernel
theorem dJ2_indexOfSupplementary_4cfef_32 : decode cJ2_indexOfSupplementary_4cfef 32 = .ok (.isub, 1) := by decide +kernel
theorem dJ2_indexOfSupplementary_4cfef_33 : decode cJ2_indexOfSupplementary_4cfef 33 = .ok (.if_icmp .ge 36, 3) := by decide +kernel
theorem dJ2_indexOfSupplementary_4cfef_36 : decode cJ2_indexOfSupplementary_4cfef 36 = .ok (.aload_n 0, 1) := by decide +kernel
theorem dJ2_indexOfSupplementary_4cfef_37 : decode cJ2_indexOfSupplementary_4cfef 37 = .ok (.iload 6, 2) := by decide +kernel
theorem dJ2_indexOfSupplementary_4cfef_39 : decode cJ2_indexOfSupplementary_4cfef 39 = .ok (.invokestatic 71, 3) := by decide +kernel
theorem dJ2_indexOfSupplementary_4cfef_42 : decode cJ2_indexOfSupplementary_4cfef 42 = .ok (.iload 4, 2) := by decide +kernel
theorem dJ2_indexOfSupplementary_4cfef_44 : decode cJ2_indexOfSupplementary_4cfef 44 = .ok (.if_icmp .ne 19, 3) := by decide +kernel
theorem dJ2_indexOfSupplementary_4cfef_47 : decode cJ2_indexOfSupplementary_4cfef 47 = .ok (.aload_n 0, 1) := by decide +kernel
theorem dJ2_indexOfSupplementary_4cfef_48 : decode cJ2_indexOfSupplementary_4cfef 48 = .ok (.iload 6, 2) := by decide +kernel
theorem dJ2_indexOfSupplementary_4cfef_50 : decode cJ2_indexOfSupplementary_4cfef 50 = .ok (.iconst 1, 1) := by decide +kernel
theorem dJ2_indexOfSupplementary_4cfef_51 : decode cJ2_indexOfSupplementary_4cfef 51 = .ok (.iadd, 1) := by decide +kernel
theorem dJ2_indexOfSupplementary_4cfef_52 : decode cJ2_indexOfSupplementary_4cfef 52 = .ok (.invokestatic 71, 3) := by decide +kernel
theorem dJ2_indexOfSupplementary_4cfef_55 : decode cJ2_indexOfSupplementary_4cfef 55 = .ok (.iload 5, 2) := by decide +kernel
theorem dJ2_indexOfSupplementary_4cfef_57 : decode cJ2_indexOfSupplementary_4cfef 57 = .ok (.if_icmp .ne 6, 3) := by decide +kernel
theorem dJ2_indexOfSupplementary_4cfef_60 : decode cJ2_indexOfSupplementary_4cfef 60 = .ok (.iload 6, 2) := by decide +kernel
theorem dJ2_indexOfSupplementary_4cfef_62 : decode cJ2_indexOfSupplementary_4cfef 62 = .ok (.ireturn, 1) := by decide +kernel
theorem dJ2_indexOfSupplementary_4cfef_63 : decode cJ2_indexOfSupplementary_4cfef 63 = .ok (.iinc 6 1, 3) := by decide +kernel
theorem dJ2_indexOfSupplementary_4cfef_66 : decode cJ2_indexOfSupplementary_4cfef 66 = .ok (.goto (-38), 3) := by decide +kernel
theorem dJ2_indexOfSupplementary_4cfef_69 : decode cJ2_indexOfSupplementary_4cfef 69 = .ok (.iconst (-1), 1) := by decide +kernel
theorem dJ2_indexOfSupplementary_4cfef_70 : decode cJ2_indexOfSupplementary_4cfef 70 = .ok (.ireturn, 1) := by decide +kernel
theorem dJ2_checkBoundsBeginEnd_d044e_0 : decode cJ2_checkBoundsBeginEnd_d044e 0 = .ok (.iload_n 0, 1) := by decide +kernel
theorem dJ2_checkBoundsBeginEnd_d044e_1 : decode cJ2_checkBoundsBeginEnd_d044e 1 = .ok (.iload_n 1, 1) := by decide +kernel
theorem dJ2_checkBoundsBeginEnd_d044e_2 : decode cJ2_checkBoundsBeginEnd_d044e 2 = .ok (.aload_n 2, 1) := by decide +kernel
theorem dJ2_checkBoundsBeginEnd_d044e_3 : decode cJ2_checkBoundsBeginEnd_d044e 3 = .ok (.invokestatic 48, 3) := by decide +kernel
theorem dJ2_checkBoundsBeginEnd_d044e_6 : decode cJ2_checkBoundsBeginEnd_d044e 6 = .ok (.invokestatic 241, 3) := by decide +kernel
theorem dJ2_checkBoundsBeginEnd_d044e_9 : decode cJ2_checkBoundsBeginEnd_d044e 9 = .ok (.return_, 1) := by decide +kernel
theorem dJ3_checkFromToIndex_8c36e_0 : decode cJ3_checkFromToIndex_8c36e 0 = .ok (.iload_n 0, 1) := by decide +kernel
theorem dJ3_checkFromToIndex_8c36e_1 : decode cJ3_checkFromToIndex_8c36e 1 = .ok (.ifCond .lt 13, 3) := by decide +kernel
theorem dJ3_checkFromToIndex_8c36e_4 : decode cJ3_checkFromToIndex_8c36e 4 = .ok (.iload_n 0, 1) := by decide +kernel
theorem dJ3_checkFromToIndex_8c36e_5 : decode cJ3_checkFromToIndex_8c36e 5 = .ok (.iload_n 1, 1) := by decide +kernel
theorem dJ3_checkFromToIndex_8c36e_6 : decode cJ3_checkFromToIndex_8c36e 6 = .ok (.if_icmp .gt 8, 3) := by decide +kernel
theorem dJ3_checkFromToIndex_8c36e_9 : decode cJ3_checkFromToIndex_8c36e 9 = .ok (.iload_n 1, 1) := by decide +kernel
theorem dJ3_checkFromToIndex_8c36e_10 : decode cJ3_checkFromToIndex_8c36e 10 = .ok (.iload_n 2, 1) := by decide +kernel
theorem dJ3_checkFromToIndex_8c36e_11 : decode cJ3_checkFromToIndex_8c36e 11 = .ok (.if_icmp .le 11, 3) := by decide +kernel
theorem dJ3_checkFromToIndex_8c36e_14 : decode cJ3_checkFromToIndex_8c36e 14 = .ok (.aload_n 3, 1) := by decide +kernel
theorem dJ3_checkFromToIndex_8c36e_15 : decode cJ3_checkFromToIndex_8c36e 15 = .ok (.iload_n 0, 1) := by decide +kernel
theorem dJ3_checkFromToIndex_8c36e_16 : decode cJ3_checkFromToIndex_8c36e 16 = .ok (.iload_n 1, 1) := by decide +kernel
theorem dJ3_checkFromToIndex_8c36e_17 : decode cJ3_checkFromToIndex_8c36e 17 = .ok (.iload_n 2, 1) := by decide +kernel
theorem dJ3_checkFromToIndex_8c36e_18 : decode cJ3_checkFromToIndex_8c36e 18 = .ok (.invokestatic 99, 3) := by decide +kernel
theorem dJ3_checkFromToIndex_8c36e_21 : decode cJ3_checkFromToIndex_8c36e 21 = .ok (.athrow, 1) := by decide +kernel
theorem dJ3_checkFromToIndex_8c36e_22 : decode cJ3_checkFromToIndex_8c36e 22 = .ok (.iload_n 0, 1) := by decide +kernel
theorem dJ3_checkFromToIndex_8c36e_23 : decode cJ3_checkFromToIndex_8c36e 23 = .ok (.ireturn, 1) := by decide +kernel
theorem dL_law_0 : decode cL_law 0 = .ok (.new 7, 3) := by decide +kernel
theorem dL_law_3 : decode cL_law 3 = .ok (.dup, 1) := by decide +kernel
theorem dL_law_4 : decode cL_law 4 = .ok (.invokespecial 9, 3) := by decide +kernel
theorem dL_law_7 : decode cL_law 7 = .ok (.astore_n 1, 1) := by decide +kernel
theorem dL_law_8 : decode cL_law 8 = .ok (.new 10, 3) := by decide +kernel
theorem dL_law_11 : decode cL_law 11 = .ok (.dup, 1) := by decide +kernel
theorem dL_law_12 : decode cL_law 12 = .ok (.invokespecial 12, 3) := by decide +kernel
theorem dL_law_15 : decode cL_law 15 = .ok (.astore_n 2, 1) := by decide +kernel
theorem dL_law_16 : decode cL_law 16 = .ok (.iconst 0, 1) := by decide +kernel
theorem dL_law_17 : decode cL_law 17 = .ok (.istore_n 3, 1) := by decide +kernel
theorem dL_law_18 : decode cL_law 18 = .ok (.iload_n 3, 1) := by decide +kernel
theorem dL_law_19 : decode cL_law 19 = .ok (.aload_n 0, 1) := by decide +kernel
theorem dL_law_20 : decode cL_law 20 = .ok (.arraylength, 1) := by decide +kernel
theorem dL_law_21 : decode cL_law 21 = .ok (.bipush 6, 2) := by decide +kernel
theorem dL_law_23 : decode cL_law 23 = .ok (.isub, 1) := by decide +kernel
theorem dL_law_24 : decode cL_law 24 = .ok (.if_icmp .gt 916, 3) := by decide +kernel
theorem dL_law_27 : decode cL_law 27 = .ok (.aload_n 0, 1) := by decide +kernel
theorem dL_law_28 : decode cL_law 28 = .ok (.iload_n 3, 1) := by decide +kernel
theorem dL_law_29 : decode cL_law 29 = .ok (.iaload, 1) := by decide +kernel
theorem dL_law_30 : decode cL_law 30 = .ok (.bipush 31, 2) := by decide +kernel
theorem dL_law_32 : decode cL_law 32 = .ok (.iand, 1) := by decide +kernel
theorem dL_law_33 : decode cL_law 33 = .ok (.tableswitch 901 0 31 #[143, 166, 179, 192, 225, 248, 261, 284, 307, 330, 353, 376, 389, 412, 425, 448, 471, 494, 517, 540, 564, 607, 640, 663, 696, 709, 722, 785, 818, 841, 864, 887], 143) := by decide +kernel
theorem dL_law_176 : decode cL_law 176 = .ok (.aload_n 1, 1) := by decide +kernel
theorem dL_law_177 : decode cL_law 177 = .ok (.aload_n 0, 1) := by decide +kernel
theorem dL_law_178 : decode cL_law 178 = .ok (.iload_n 3, 1) := by decide +kernel
theorem dL_law_179 : decode cL_law 179 = .ok (.iconst 1, 1) := by decide +kernel
theorem dL_law_180 : decode cL_law 180 = .ok (.iadd, 1) := by decide +kernel
theorem dL_law_181 : decode cL_law 181 = .ok (.iaload, 1) := by decide +kernel
theorem dL_law_182 : decode cL_law 182 = .ok (.invokevirtual 13, 3) := by decide +kernel
theorem dL_law_185 : decode cL_law 185 = .ok (.aload_n 2, 1) := by decide +kernel
theorem dL_law_186 : decode cL_law 186 = .ok (.aload_n 0, 1) := by decide +kernel
theorem dL_law_187 : decode cL_law 187 = .ok (.iload_n 3, 1) := by decide +kernel
theorem dL_law_188 : decode cL_law 188 = .ok (.iconst 1, 1) := by decide +kernel
theorem dL_law_189 : decode cL_law 189 = .ok (.iadd, 1) := by decide +kernel
theorem dL_law_190 : decode cL_law 190 = .ok (.iaload, 1) := by decide +kernel
theorem dL_law_191 : decode cL_law 191 = .ok (.invokevirtual 17, 3) := by decide +kernel
theorem dL_law_194 : decode cL_law 194 = .ok (.if_icmp .eq 740, 3) := by decide +kernel
theorem dL_law_197 : decode cL_law 197 = .ok (.iconst 0, 1) := by decide +kernel
theorem dL_law_198 : decode cL_law 198 = .ok (.ireturn, 1) := by decide +kernel
theorem dL_law_199 : decode cL_law 199 = .ok (.aload_n 1, 1) := by decide +kernel
theorem dL_law_200 : decode cL_law 200 = .ok (.invokevirtual 18, 3) := by decide +kernel
theorem dL_law_203 : decode cL_law 203 = .ok (.aload_n 2, 1) := by decide +kernel
theorem dL_law_204 : decode cL_law 204 = .ok (.invokevirtual 22, 3) := by decide +kernel
theorem dL_law_207 : decode cL_law 207 = .ok (.if_icmp .eq 727, 3) := by decide +kernel
theorem dL_law_210 : decode cL_law 210 = .ok (.iconst 0, 1) := by decide +kernel
theorem dL_law_211 : decode cL_law 211 = .ok (.ireturn, 1) := by decide +kernel
theorem dL_law_212 : decode cL_law 212 = .ok (.aload_n 1, 1) := by decide +kernel
theorem dL_law_213 : decode cL_law 213 = .ok (.invokevirtual 23, 3) := by decide +kernel
theorem dL_law_216 : decode cL_law 216 = .ok (.aload_n 2, 1) := by decide +kernel
theorem dL_law_217 : decode cL_law 217 = .ok (.invokevirtual 26, 3) := by decide +kernel
theorem dL_law_220 : decode cL_law 220 = .ok (.if_icmp .eq 714, 3) := by decide +kernel
theorem dL_law_223 : decode cL_law 223 = .ok (.iconst 0, 1) := by decide +kernel
theorem dL_law_224 : decode cL_law 224 = .ok (.ireturn, 1) := by decide +kernel
theorem dL_law_225 : decode cL_law 225 = .ok (.aload_n 1, 1) := by decide +kernel
theorem dL_law_226 : decode cL_law 226 = .ok (.aload_n 0, 1) := by decide +kernel
theorem dL_law_227 : decode cL_law 227 = .ok (.iload_n 3, 1) := by decide +kernel
theorem dL_law_228 : decode cL_law 228 = .ok (.iconst 1, 1) := by decide +kernel
theorem dL_law_229 : decode cL_law 229 = .ok (.iadd, 1) := by decide +kernel
theorem dL_law_230 : decode cL_law 230 = .ok (.iaload, 1) := by decide +kernel
theorem dL_law_231 : decode cL_law 231 = .ok (.aload_n 0, 1) := by decide +kernel
theorem dL_law_232 : decode cL_law 232 = .ok (.iload_n 3, 1) := by decide +kernel
theorem dL_law_233 : decode cL_law 233 = .ok (.iconst 2, 1) := by decide +kernel
theorem dL_law_234 : decode cL_law 234 = .ok (.iadd, 1) := by decide +kernel
theorem dL_law_235 : decode cL_law 235 = .ok (.iaload, 1) := by decide +kernel
theorem dL_law_236 : decode cL_law 236 = .ok (.invokevirtual 27, 3) := by decide +kernel
theorem dL_law_239 : decode cL_law 239 = .ok (.aload_n 2, 1) := by decide +kernel
theorem dL_law_240 : decode cL_law 240 = .ok (.aload_n 0, 1) := by decide +kernel
theorem dL_law_241 : decode cL_law 241 = .ok (.iload_n 3, 1) := by decide +kernel
theorem dL_law_242 : decode cL_law 242 = .ok (.iconst 1, 1) := by decide +kernel
theorem dL_law_243 : decode cL_law 243 = .ok (.iadd, 1) := by decide +kernel
theorem dL_law_244 : decode cL_law 244 = .ok (.iaload, 1) := by decide +kernel
theorem dL_law_245 : decode cL_law 245 = .ok (.aload_n 0, 1) := by decide +kernel
theorem dL_law_246 : decode cL_law 246 = .ok (.iload_n 3, 1) := by decide +kernel
theorem dL_law_247 : decode cL_law 247 = .ok (.iconst 2, 1) := by decide +kernel
theorem dL_law_248 : decode cL_law 248 = .ok (.iadd, 1) := by decide +kernel
theorem dL_law_249 : decode cL_law 249 = .ok (.iaload, 1) := by decide +kernel
theorem dL_law_250 : decode cL_law 250 = .ok (.invokevirtual 31, 3) := by decide +kernel
theorem dL_law_253 : decode cL_law 253 = .ok (.if_icmp .eq 681, 3) := by decide +kernel
theorem dL_law_256 : decode cL_law 256 = .ok (.iconst 0, 1) := by decide +kernel
theorem dL_law_257 : decode cL_law 257 = .ok (.ireturn, 1) := by decide +kernel
theorem dL_law_258 : decode cL_law 258 = .ok (.aload_n 1, 1) := by decide +kernel
theorem dL_law_259 : decode cL_law 259 = .ok (.aload_n 0, 1) := by decide +kernel
theorem dL_law_260 : decode cL_law 260 = .ok (.iload_n 3, 1) := by decide +kernel
theorem dL_law_261 : decode cL_law 261 = .ok (.iconst 1, 1) := by decide +kernel
theorem dL_law_262 : decode cL_law 262 = .ok (.iadd, 1) := by decide +kernel
theorem dL_law_263 : decode cL_law 263 = .ok (.iaload, 1) := by decide +kernel
theorem dL_law_264 : decode cL_law 264 = .ok (.invokevirtual 32, 3) := by decide +kernel
theorem dL_law_267 : decode cL_law 267 = .ok (.aload_n 2, 1) := by decide +kernel
theorem dL_law_268 : decode cL_law 268 = .ok (.aload_n 0, 1) := by decide +kernel
theorem dL_law_269 : decode cL_law 269 = .ok (.iload_n 3, 1) := by decide +kernel
theorem dL_law_270 : decode cL_law 270 = .ok (.iconst 1, 1) := by decide +kernel
theorem dL_law_271 : decode cL_law 271 = .ok (.iadd, 1) := by decide +kernel
theorem dL_law_272 : decode cL_law 272 = .ok (.iaload, 1) := by decide +kernel
theorem dL_law_273 : decode cL_law 273 = .ok (.invokevirtual 35, 3) := by decide +kernel
theorem dL_law_276 : decode cL_law 276 = .ok (.if_icmp .eq 658, 3) := by decide +kernel
theorem dL_law_279 : decode cL_law 279 = .ok (.iconst 0, 1) := by decide +kernel
theorem dL_law_280 : decode cL_law 280 = .ok (.ireturn, 1) := by decide +kernel
theorem dL_law_281 : decode cL_law 281 = .ok (.aload_n 1, 1) := by decide +kernel
theorem dL_law_282 : decode cL_law 282 = .ok (.invokevirtual 36, 3) := by decide +kernel
theorem dL_law_285 : decode cL_law 285 = .ok (.aload_n 2, 1) := by decide +kernel
theorem dL_law_286 : decode cL_law 286 = .ok (.invokevirtual 39, 3) := by decide +kernel
theorem dL_law_289 : decode cL_law 289 = .ok (.if_icmp .eq 645, 3) := by decide +kernel
theorem dL_law_292 : decode cL_law 292 = .ok (.iconst 0, 1) := by decide +kernel
theorem dL_law_293 : decode cL_law 293 = .ok (.ireturn, 1) := by decide +kernel
theorem dL_law_294 : decode cL_law 294 = .ok (.aload_n 1, 1) := by decide +kernel
theorem dL_law_295 : decode cL_law 295 = .ok (.aload_n 0, 1) := by decide +kernel
theorem dL_law_296 : decode cL_law 296 = .ok (.iload_n 3, 1) := by decide +kernel
theorem dL_law_297 : decode cL_law 297 = .ok (.iconst 1, 1) := by decide +kernel
theorem dL_law_298 : decode cL_law 298 = .ok (.iadd, 1) := by decide +kernel
theorem dL_law_299 : decode cL_law 299 = .ok (.iaload, 1) := by decide +kernel
theorem dL_law_300 : decode cL_law 300 = .ok (.invokevirtual 40, 3) := by decide +kernel
theorem dL_law_303 : decode cL_law 303 = .ok (.aload_n 2, 1) := by decide +kernel
theorem dL_law_304 : decode cL_law 304 = .ok (.aload_n 0, 1) := by decide +kernel
theorem dL_law_305 : decode cL_law 305 = .ok (.iload_n 3, 1) := by decide +kernel
theorem dL_law_306 : decode cL_law 306 = .ok (.iconst 1, 1) := by decide +kernel
theorem dL_law_307 : decode cL_law 307 = .ok (.iadd, 1) := by decide +kernel
theorem dL_law_308 : decode cL_law 308 = .ok (.iaload, 1) := by decide +kernel
theorem dL_law_309 : decode cL_law 309 = .ok (.invokevirtual 43, 3) := by decide +kernel
theorem dL_law_312 : decode cL_law 312 = .ok (.if_icmp .eq 622, 3) := by decide +kernel
theorem dL_law_315 : decode cL_law 315 = .ok (.iconst 0, 1) := by decide +kernel
theorem dL_law_316 : decode cL_law 316 = .ok (.ireturn, 1) := by decide +kernel
theorem dL_law_317 : decode cL_law 317 = .ok (.aload_n 1, 1) := by decide +kernel
theorem dL_law_318 : decode cL_law 318 = .ok (.aload_n 0, 1) := by decide +kernel
theorem dL_law_319 : decode cL_law 319 = .ok (.iload_n 3, 1) := by decide +kernel
theorem dL_law_320 : decode cL_law 320 = .ok (.iconst 1, 1) := by decide +kernel
theorem dL_law_321 : decode cL_law 321 = .ok (.iadd, 1) := by decide +kernel
theorem dL_law_322 : decode cL_law 322 = .ok (.iaload, 1) := by decide +kernel
theorem dL_law_323 : decode cL_law 323 = .ok (.invokevirtual 44, 3) := by decide +kernel
theorem dL_law_326 : decode cL_law 326 = .ok (.aload_n 2, 1) := by decide +kernel
theorem dL_law_327 : decode cL_law 327 = .ok (.aload_n 0, 1) := by decide +kernel
theorem dL_law_328 : decode cL_law 328 = .ok (.iload_n 3, 1) := by decide +kernel
theorem dL_law_329 : decode cL_law 329 = .ok (.iconst 1, 1) := by decide +kernel
theorem dL_law_330 : decode cL_law 330 = .ok (.iadd, 1) := by decide +kernel
theorem dL_law_331 : decode cL_law 331 = .ok (.iaload, 1) := by decide +kernel
theorem dL_law_332 : decode cL_law 332 = .ok (.invokevirtual 47, 3) := by decide +kernel
theorem dL_law_335 : decode cL_law 335 = .ok (.if_icmp .eq 599, 3) := by decide +kernel
theorem dL_law_338 : decode cL_law 338 = .ok (.iconst 0, 1) := by decide +kernel
theorem dL_law_339 : decode cL_law 339 = .ok (.ireturn, 1) := by decide +kernel
theorem dL_law_340 : decode cL_law 340 = .ok (.aload_n 1, 1) := by decide +kernel
theorem dL_law_341 : decode cL_law 341 = .ok (.aload_n 0, 1) := by decide +kernel
theorem dL_law_342 : decode cL_law 342 = .ok (.iload_n 3, 1) := by decide +kernel
theorem dL_law_343 : decode cL_law 343 = .ok (.iconst 1, 1) := by decide +kernel
theorem dL_law_344 : decode cL_law 344 = .ok (.iadd, 1) := by decide +kernel
theorem dL_law_345 : decode cL_law 345 = .ok (.iaload, 1) := by decide +kernel
theorem dL_law_346 : decode cL_law 346 = .ok (.invokevirtual 48, 3) := by decide +kernel
theorem dL_law_349 : decode cL_law 349 = .ok (.aload_n 2, 1) := by decide +kernel
theorem dL_law_350 : decode cL_law 350 = .ok (.aload_n 0, 1) := by decide +kernel
theorem dL_law_351 : decode cL_law 351 = .ok (.iload_n 3, 1) := by decide +kernel
theorem dL_law_352 : decode cL_law 352 = .ok (.iconst 1, 1) := by decide +kernel
theorem dL_law_353 : decode cL_law 353 = .ok (.iadd, 1) := by decide +kernel
theorem dL_law_354 : decode cL_law 354 = .ok (.iaload, 1) := by decide +kernel
theorem dL_law_355 : decode cL_law 355 = .ok (.invokevirtual 51, 3) := by decide +kernel
theorem dL_law_358 : decode cL_law 358 = .ok (.if_icmp .eq 576, 3) := by decide +kernel
theorem dL_law_361 : decode cL_law 361 = .ok (.iconst 0, 1) := by decide +kernel
theorem dL_law_362 : decode cL_law 362 = .ok (.ireturn, 1) := by decide +kernel
theorem dL_law_363 : decode cL_law 363 = .ok (.aload_n 1, 1) := by decide +kernel
theorem dL_law_364 : decode cL_law 364 = .ok (.aload_n 0, 1) := by decide +kernel
theorem dL_law_365 : decode cL_law 365 = .ok (.iload_n 3, 1) := by decide +kernel
theorem dL_law_366 : decode cL_law 366 = .ok (.iconst 1, 1) := by decide +kernel
theorem dL_law_367 : decode cL_law 367 = .ok (.iadd, 1) := by decide +kernel
theorem dL_law_368 : decode cL_law 368 = .ok (.iaload, 1) := by decide +kernel
theorem dL_law_369 : decode cL_law 369 = .ok (.invokevirtual 52, 3) := by decide +kernel
theorem dL_law_372 : decode cL_law 372 = .ok (.aload_n 2, 1) := by decide +kernel
theorem dL_law_373 : decode cL_law 373 = .ok (.aload_n 0, 1) := by decide +kernel
theorem dL_law_374 : decode cL_law 374 = .ok (.iload_n 3, 1) := by decide +kernel
theorem dL_law_375 : decode cL_law 375 = .ok (.iconst 1, 1) := by decide +kernel
theorem dL_law_376 : decode cL_law 376 = .ok (.iadd, 1) := by decide +kernel
theorem dL_law_377 : decode cL_law 377 = .ok (.iaload, 1) := by decide +kernel
theorem dL_law_378 : decode cL_law 378 = .ok (.invokevirtual 55, 3) := by decide +kernel
theorem dL_law_381 : decode cL_law 381 = .ok (.if_icmp .eq 553, 3) := by decide +kernel
theorem dL_law_384 : decode cL_law 384 = .ok (.iconst 0, 1) := by decide +kernel
theorem dL_law_385 : decode cL_law 385 = .ok (.ireturn, 1) := by decide +kernel
theorem dL_law_386 : decode cL_law 386 = .ok (.aload_n 1, 1) := by decide +kernel
theorem dL_law_387 : decode cL_law 387 = .ok (.aload_n 0, 1) := by decide +kernel
theorem dL_law_388 : decode cL_law 388 = .ok (.iload_n 3, 1) := by decide +kernel
theorem dL_law_389 : decode cL_law 389 = .ok (.iconst 1, 1) := by decide +kernel
theorem dL_law_390 : decode cL_law 390 = .ok (.iadd, 1) := by decide +kernel
theorem dL_law_391 : decode cL_law 391 = .ok (.iaload, 1) := by decide +kernel
theorem dL_law_392 : decode cL_law 392 = .ok (.invokevirtual 56, 3) := by decide +kernel
theorem dL_law_395 : decode cL_law 395 = .ok (.aload_n 2, 1) := by decide +kernel
theorem dL_law_396 : decode cL_law 396 = .ok (.aload_n 0, 1) := by decide +kernel
theorem dL_law_397 : decode cL_law 397 = .ok (.iload_n 3, 1) := by decide +kernel
theorem dL_law_398 : decode cL_law 398 = .ok (.iconst 1, 1) := by decide +kernel
theorem dL_law_399 : decode cL_law 399 = .ok (.iadd, 1) := by decide +kernel
theorem dL_law_400 : decode cL_law 400 = .ok (.iaload, 1) := by decide +kernel
theorem dL_law_401 : decode cL_law 401 = .ok (.invokevirtual 59, 3) := by decide +kernel
theorem dL_law_404 : decode cL_law 404 = .ok (.if_icmp .eq 530, 3) := by decide +kernel
theorem dL_law_407 : decode cL_law 407 = .ok (.iconst 0, 1) := by decide +kernel
theorem dL_law_408 : decode cL_law 408 = .ok (.ireturn, 1) := by decide +kernel
theorem dL_law_409 : decode cL_law 409 = .ok (.aload_n 1, 1) := by decide +kernel
theorem dL_law_410 : decode cL_law 410 = .ok (.invokevirtual 60, 3) := by decide +kernel
theorem dL_law_413 : decode cL_law 413 = .ok (.aload_n 2, 1) := by decide +kernel
theorem dL_law_414 : decode cL_law 414 = .ok (.invokevirtual 63, 3) := by decide +kernel
theorem dL_law_417 : decode cL_law 417 = .ok (.if_icmp .eq 517, 3) := by decide +kernel
theorem dL_law_420 : decode cL_law 420 = .ok (.iconst 0, 1) := by decide +kernel
theorem dL_law_421 : decode cL_law 421 = .ok (.ireturn, 1) := by decide +kernel
theorem dL_law_422 : decode cL_law 422 = .ok (.aload_n 1, 1) := by decide +kernel
theorem dL_law_423 : decode cL_law 423 = .ok (.aload_n 0, 1) := by decide +kernel
theorem dL_law_424 : decode cL_law 424 = .ok (.iload_n 3, 1) := by decide +kernel
theorem dL_law_425 : decode cL_law 425 = .ok (.iconst 1, 1) := by decide +kernel
theorem dL_law_426 : decode cL_law 426 = .ok (.iadd, 1) := by decide +kernel
theorem dL_law_427 : decode cL_law 427 = .ok (.iaload, 1) := by decide +kernel
theorem dL_law_428 : decode cL_law 428 = .ok (.invokevirtual 64, 3) := by decide +kernel
theorem dL_law_431 : decode cL_law 431 = .ok (.aload_n 2, 1) := by decide +kernel
theorem dL_law_432 : decode cL_law 432 = .ok (.aload_n 0, 1) := by decide +kernel
theorem dL_law_433 : decode cL_law 433 = .ok (.iload_n 3, 1) := by decide +kernel
theorem dL_law_434 : decode cL_law 434 = .ok (.iconst 1, 1) := by decide +kernel
theorem dL_law_435 : decode cL_law 435 = .ok (.iadd, 1) := by decide +kernel
theorem dL_law_436 : decode cL_law 436 = .ok (.iaload, 1) := by decide +kernel
theorem dL_law_437 : decode cL_law 437 = .ok (.invokevirtual 67, 3) := by decide +kernel
theorem dL_law_440 : decode cL_law 440 = .ok (.if_icmp .eq 494, 3) := by decide +kernel
theorem dL_law_443 : decode cL_law 443 = .ok (.iconst 0, 1) := by decide +kernel
theorem dL_law_444 : decode cL_law 444 = .ok (.ireturn, 1) := by decide +kernel
theorem dL_law_445 : decode cL_law 445 = .ok (.aload_n 1, 1) := by decide +kernel
theorem dL_law_446 : decode cL_law 446 = .ok (.invokevirtual 68, 3) := by decide +kernel
theorem dL_law_449 : decode cL_law 449 = .ok (.aload_n 2, 1) := by decide +kernel
theorem dL_law_450 : decode cL_law 450 = .ok (.invokevirtual 71, 3) := by decide +kernel
theorem dL_law_453 : decode cL_law 453 = .ok (.if_icmp .eq 481, 3) := by decide +kernel
theorem dL_law_456 : decode cL_law 456 = .ok (.iconst 0, 1) := by decide +kernel
theorem dL_law_457 : decode cL_law 457 = .ok (.ireturn, 1) := by decide +kernel
theorem dL_law_458 : decode cL_law 458 = .ok (.aload_n 1, 1) := by decide +kernel
theorem dL_law_459 : decode cL_law 459 = .ok (.aload_n 0, 1) := by decide +kernel
theorem dL_law_460 : decode cL_law 460 = .ok (.iload_n 3, 1) := by decide +kernel
theorem dL_law_461 : decode cL_law 461 = .ok (.iconst 1, 1) := by decide +kernel
theorem dL_law_462 : decode cL_law 462 = .ok (.iadd, 1) := by decide +kernel
theorem dL_law_463 : decode cL_law 463 = .ok (.iaload, 1) := by decide +kernel
theorem dL_law_464 : decode cL_law 464 = .ok (.invokevirtual 72, 3) := by decide +kernel
theorem dL_law_467 : decode cL_law 467 = .ok (.aload_n 2, 1) := by decide +kernel
theorem dL_law_468 : decode cL_law 468 = .ok (.aload_n 0, 1) := by decide +kernel
theorem dL_law_469 : decode cL_law 469 = .ok (.iload_n 3, 1) := by decide +kernel
theorem dL_law_470 : decode cL_law 470 = .ok (.iconst 1, 1) := by decide +kernel
theorem dL_law_471 : decode cL_law 471 = .ok (.iadd, 1) := by decide +kernel
theorem dL_law_472 : decode cL_law 472 = .ok (.iaload, 1) := by decide +kernel
theorem dL_law_473 : decode cL_law 473 = .ok (.invokevirtual 75, 3) := by decide +kernel
theorem dL_law_476 : decode cL_law 476 = .ok (.if_icmp .eq 458, 3) := by decide +kernel
theorem dL_law_479 : decode cL_law 479 = .ok (.iconst 0, 1) := by decide +kernel
theorem dL_law_480 : decode cL_law 480 = .ok (.ireturn, 1) := by decide +kernel
theorem dL_law_481 : decode cL_law 481 = .ok (.aload_n 1, 1) := by decide +kernel
theorem dL_law_482 : decode cL_law 482 = .ok (.aload_n 0, 1) := by decide +kernel
theorem dL_law_483 : decode cL_law 483 = .ok (.iload_n 3, 1) := by decide +kernel
theorem dL_law_484 : decode cL_law 484 = .ok (.iconst 1, 1) := by decide +kernel
theorem dL_law_485 : decode cL_law 485 = .ok (.iadd, 1) := by decide +kernel
theorem dL_law_486 : decode cL_law 486 = .ok (.iaload, 1) := by decide +kernel
theorem dL_law_487 : decode cL_law 487 = .ok (.invokevirtual 76, 3) := by decide +kernel
theorem dL_law_490 : decode cL_law 490 = .ok (.aload_n 2, 1) := by decide +kernel
theorem dL_law_491 : decode cL_law 491 = .ok (.aload_n 0, 1) := by decide +kernel
theorem dL_law_492 : decode cL_law 492 = .ok (.iload_n 3, 1) := by decide +kernel
theorem dL_law_493 : decode cL_law 493 = .ok (.iconst 1, 1) := by decide +kernel
theorem dL_law_494 : decode cL_law 494 = .ok (.iadd, 1) := by decide +kernel
theorem dL_law_495 : decode cL_law 495 = .ok (.iaload, 1) := by decide +kernel
theorem dL_law_496 : decode cL_law 496 = .ok (.invokevirtual 79, 3) := by decide +kernel
theorem dL_law_499 : decode cL_law 499 = .ok (.if_icmp .eq 435, 3) := by decide +kernel
theorem dL_law_502 : decode cL_law 502 = .ok (.iconst 0, 1) := by decide +kernel
theorem dL_law_503 : decode cL_law 503 = .ok (.ireturn, 1) := by decide +kernel
theorem dL_law_504 : decode cL_law 504 = .ok (.aload_n 1, 1) := by decide +kernel
theorem dL_law_505 : decode cL_law 505 = .ok (.aload_n 0, 1) := by decide +kernel
theorem dL_law_506 : decode cL_law 506 = .ok (.iload_n 3, 1) := by decide +kernel
theorem dL_law_507 : decode cL_law 507 = .ok (.iconst 1, 1) := by decide +kernel
theorem dL_law_508 : decode cL_law 508 = .ok (.iadd, 1) := by decide +kernel
theorem dL_law_509 : decode cL_law 509 = .ok (.iaload, 1) := by decide +kernel
theorem dL_law_510 : decode cL_law 510 = .ok (.invokevirtual 80, 3) := by decide +kernel
theorem dL_law_513 : decode cL_law 513 = .ok (.aload_n 2, 1) := by decide +kernel
theorem dL_law_514 : decode cL_law 514 = .ok (.aload_n 0, 1) := by decide +kernel
theorem dL_law_515 : decode cL_law 515 = .ok (.iload_n 3, 1) := by decide +kernel
theorem dL_law_516 : decode cL_law 516 = .ok (.iconst 1, 1) := by decide +kernel
theorem dL_law_517 : decode cL_law 517 = .ok (.iadd, 1) := by decide +kernel
theorem dL_law_518 : decode cL_law 518 = .ok (.iaload, 1) := by decide +kernel
theorem dL_law_519 : decode cL_law 519 = .ok (.invokevirtual 83, 3) := by decide +kernel
theorem dL_law_522 : decode cL_law 522 = .ok (.if_icmp .eq 412, 3) := by decide +kernel
theorem dL_law_525 : decode cL_law 525 = .ok (.iconst 0, 1) := by decide +kernel
theorem dL_law_526 : decode cL_law 526 = .ok (.ireturn, 1) := by decide +kernel
theorem dL_law_527 : decode cL_law 527 = .ok (.aload_n 1, 1) := by decide +kernel
theorem dL_law_528 : decode cL_law 528 = .ok (.aload_n 0, 1) := by decide +kernel
theorem dL_law_529 : decode cL_law 529 = .ok (.iload_n 3, 1) := by decide +kernel
theorem dL_law_530 : decode cL_law 530 = .ok (.iconst 1, 1) := by decide +kernel
theorem dL_law_531 : decode cL_law 531 = .ok (.iadd, 1) := by decide +kernel
theorem dL_law_532 : decode cL_law 532 = .ok (.iaload, 1) := by decide +kernel
theorem dL_law_533 : decode cL_law 533 = .ok (.invokevirtual 84, 3) := by decide +kernel
theorem dL_law_536 : decode cL_law 536 = .ok (.aload_n 2, 1) := by decide +kernel
theorem dL_law_537 : decode cL_law 537 = .ok (.aload_n 0, 1) := by decide +kernel
theorem dL_law_538 : decode cL_law 538 = .ok (.iload_n 3, 1) := by decide +kernel
theorem dL_law_539 : decode cL_law 539 = .ok (.iconst 1, 1) := by decide +kernel
theorem dL_law_540 : decode cL_law 540 = .ok (.iadd, 1) := by decide +kernel
theorem dL_law_541 : decode cL_law 541 = .ok (.iaload, 1) := by decide +kernel
theorem dL_law_542 : decode cL_law 542 = .ok (.invokevirtual 87, 3) := by decide +kernel
theorem dL_law_545 : decode cL_law 545 = .ok (.if_icmp .eq 389, 3) := by decide +kernel
theorem dL_law_548 : decode cL_law 548 = .ok (.iconst 0, 1) := by decide +kernel
theorem dL_law_549 : decode cL_law 549 = .ok (.ireturn, 1) := by decide +kernel
theorem dL_law_550 : decode cL_law 550 = .ok (.aload_n 1, 1) := by decide +kernel
theorem dL_law_551 : decode cL_law 551 = .ok (.aload_n 0, 1) := by decide +kernel
theorem dL_law_552 : decode cL_law 552 = .ok (.iload_n 3, 1) := by decide +kernel
theorem dL_law_553 : decode cL_law 553 = .ok (.iconst 1, 1) := by decide +kernel
theorem dL_law_554 : decode cL_law 554 = .ok (.iadd, 1) := by decide +kernel
theorem dL_law_555 : decode cL_law 555 = .ok (.iaload, 1) := by decide +kernel
theorem dL_law_556 : decode cL_law 556 = .ok (.invokevirtual 88, 3) := by decide +kernel
theorem dL_law_559 : decode cL_law 559 = .ok (.aload_n 2, 1) := by decide +kernel
theorem dL_law_560 : decode cL_law 560 = .ok (.aload_n 0, 1) := by decide +kernel
theorem dL_law_561 : decode cL_law 561 = .ok (.iload_n 3, 1) := by decide +kernel
theorem dL_law_562 : decode cL_law 562 = .ok (.iconst 1, 1) := by decide +kernel
theorem dL_law_563 : decode cL_law 563 = .ok (.iadd, 1) := by decide +kernel
theorem dL_law_564 : decode cL_law 564 = .ok (.iaload, 1) := by decide +kernel
theorem dL_law_565 : decode cL_law 565 = .ok (.invokevirtual 91, 3) := by decide +kernel
theorem dL_law_568 : decode cL_law 568 = .ok (.if_icmp .eq 366, 3) := by decide +kernel
theorem dL_law_571 : decode cL_law 571 = .ok (.iconst 0, 1) := by decide +kernel
theorem dL_law_572 : decode cL_law 572 = .ok (.ireturn, 1) := by decide +kernel
theorem dL_law_573 : decode cL_law 573 = .ok (.aload_n 1, 1) := by decide +kernel
theorem dL_law_574 : decode cL_law 574 = .ok (.aload_n 0, 1) := by decide +kernel
theorem dL_law_575 : decode cL_law 575 = .ok (.iload_n 3, 1) := by decide +kernel
theorem dL_law_576 : decode cL_law 576 = .ok (.iconst 1, 1) := by decide +kernel
theorem dL_law_577 : decode cL_law 577 = .ok (.iadd, 1) := by decide +kernel
theorem dL_law_578 : decode cL_law 578 = .ok (.iaload, 1) := by decide +kernel
theorem dL_law_579 : decode cL_law 579 = .ok (.invokevirtual 92, 3) := by decide +kernel
theorem dL_law_582 : decode cL_law 582 = .ok (.aload_n 2, 1) := by decide +kernel
theorem dL_law_583 : decode cL_law 583 = .ok (.aload_n 0, 1) := by decide +kernel
theorem dL_law_584 : decode cL_law 584 = .ok (.iload_n 3, 1) := by decide +kernel
theorem dL_law_585 : decode cL_law 585 = .ok (.iconst 1, 1) := by decide +kernel
theorem dL_law_586 : decode cL_law 586 = .ok (.iadd, 1) := by decide +kernel
theorem dL_law_587 : decode cL_law 587 = .ok (.iaload, 1) := by decide +kernel
theorem dL_law_588 : decode cL_law 588 = .ok (.invokevirtual 96, 3) := by decide +kernel
theorem dL_law_591 : decode cL_law 591 = .ok (.lcmp, 1) := by decide +kernel
theorem dL_law_592 : decode cL_law 592 = .ok (.ifCond .eq 342, 3) := by decide +kernel
theorem dL_law_595 : decode cL_law 595 = .ok (.iconst 0, 1) := by decide +kernel
theorem dL_law_596 : decode cL_law 596 = .ok (.ireturn, 1) := by decide +kernel
theorem dL_law_597 : decode cL_law 597 = .ok (.aload_n 1, 1) := by decide +kernel
theorem dL_law_598 : decode cL_law 598 = .ok (.aload_n 0, 1) := by decide +kernel
theorem dL_law_599 : decode cL_law 599 = .ok (.iload_n 3, 1) := by decide +kernel
theorem dL_law_600 : decode cL_law 600 = .ok (.iconst 1, 1) := by decide +kernel
theorem dL_law_601 : decode cL_law 601 = .ok (.iadd, 1) := by decide +kernel
theorem dL_law_602 : decode cL_law 602 = .ok (.iaload, 1) := by decide +kernel
theorem dL_law_603 : decode cL_law 603 = .ok (.aload_n 0, 1) := by decide +kernel
theorem dL_law_604 : decode cL_law 604 = .ok (.iload_n 3, 1) := by decide +kernel
theorem dL_law_605 : decode cL_law 605 = .ok (.iconst 2, 1) := by decide +kernel
theorem dL_law_606 : decode cL_law 606 = .ok (.iadd, 1) := by decide +kernel
theorem dL_law_607 : decode cL_law 607 = .ok (.iaload, 1) := by decide +kernel
theorem dL_law_608 : decode cL_law 608 = .ok (.aload_n 0, 1) := by decide +kernel
theorem dL_law_609 : decode cL_law 609 = .ok (.iload_n 3, 1) := by decide +kernel
theorem dL_law_610 : decode cL_law 610 = .ok (.iconst 3, 1) := by decide +kernel
theorem dL_law_611 : decode cL_law 611 = .ok (.iadd, 1) := by decide +kernel
theorem dL_law_612 : decode cL_law 612 = .ok (.iaload, 1) := by decide +kernel
theorem dL_law_613 : decode cL_law 613 = .ok (.invokevirtual 97, 3) := by decide +kernel
theorem dL_law_616 : decode cL_law 616 = .ok (.aload_n 2, 1) := by decide +kernel
theorem dL_law_617 : decode cL_law 617 = .ok (.aload_n 0, 1) := by decide +kernel
theorem dL_law_618 : decode cL_law 618 = .ok (.iload_n 3, 1) := by decide +kernel
theorem dL_law_619 : decode cL_law 619 = .ok (.iconst 1, 1) := by decide +kernel
theorem dL_law_620 : decode cL_law 620 = .ok (.iadd, 1) := by decide +kernel
theorem dL_law_621 : decode cL_law 621 = .ok (.iaload, 1) := by decide +kernel
theorem dL_law_622 : decode cL_law 622 = .ok (.aload_n 0, 1) := by decide +kernel
theorem dL_law_623 : decode cL_law 623 = .ok (.iload_n 3, 1) := by decide +kernel
theorem dL_law_624 : decode cL_law 624 = .ok (.iconst 2, 1) := by decide +kernel
theorem dL_law_625 : decode cL_law 625 = .ok (.iadd, 1) := by decide +kernel
theorem dL_law_626 : decode cL_law 626 = .ok (.iaload, 1) := by decide +kernel
theorem dL_law_627 : decode cL_law 627 = .ok (.aload_n 0, 1) := by decide +kernel
theorem dL_law_628 : decode cL_law 628 = .ok (.iload_n 3, 1) := by decide +kernel
theorem dL_law_629 : decode cL_law 629 = .ok (.iconst 3, 1) := by decide +kernel
theorem dL_law_630 : decode cL_law 630 = .ok (.iadd, 1) := by decide +kernel
theorem dL_law_631 : decode cL_law 631 = .ok (.iaload, 1) := by decide +kernel
theorem dL_law_632 : decode cL_law 632 = .ok (.invokevirtual 101, 3) := by decide +kernel
theorem dL_law_635 : decode cL_law 635 = .ok (.if_icmp .eq 299, 3) := by decide +kernel
theorem dL_law_638 : decode cL_law 638 = .ok (.iconst 0, 1) := by decide +kernel
theorem dL_law_639 : decode cL_law 639 = .ok (.ireturn, 1) := by decide +kernel
theorem dL_law_640 : decode cL_law 640 = .ok (.aload_n 1, 1) := by decide +kernel
theorem dL_law_641 : decode cL_law 641 = .ok (.aload_n 0, 1) := by decide +kernel
theorem dL_law_642 : decode cL_law 642 = .ok (.iload_n 3, 1) := by decide +kernel
theorem dL_law_643 : decode cL_law 643 = .ok (.iconst 1, 1) := by decide +kernel
theorem dL_law_644 : decode cL_law 644 = .ok (.iadd, 1) := by decide +kernel
theorem dL_law_645 : decode cL_law 645 = .ok (.iaload, 1) := by decide +kernel
theorem dL_law_646 : decode cL_law 646 = .ok (.aload_n 0, 1) := by decide +kernel
theorem dL_law_647 : decode cL_law 647 = .ok (.iload_n 3, 1) := by decide +kernel
theorem dL_law_648 : decode cL_law 648 = .ok (.iconst 2, 1) := by decide +kernel
theorem dL_law_649 : decode cL_law 649 = .ok (.iadd, 1) := by decide +kernel
theorem dL_law_650 : decode cL_law 650 = .ok (.iaload, 1) := by decide +kernel
theorem dL_law_651 : decode cL_law 651 = .ok (.invokevirtual 102, 3) := by decide +kernel
theorem dL_law_654 : decode cL_law 654 = .ok (.aload_n 2, 1) := by decide +kernel
theorem dL_law_655 : decode cL_law 655 = .ok (.aload_n 0, 1) := by decide +kernel
theorem dL_law_656 : decode cL_law 656 = .ok (.iload_n 3, 1) := by decide +kernel
theorem dL_law_657 : decode cL_law 657 = .ok (.iconst 1, 1) := by decide +kernel
theorem dL_law_658 : decode cL_law 658 = .ok (.iadd, 1) := by decide +kernel
theorem dL_law_659 : decode cL_law 659 = .ok (.iaload, 1) := by decide +kernel
theorem dL_law_660 : decode cL_law 660 = .ok (.aload_n 0, 1) := by decide +kernel
theorem dL_law_661 : decode cL_law 661 = .ok (.iload_n 3, 1) := by decide +kernel
theorem dL_law_662 : decode cL_law 662 = .ok (.iconst 2, 1) := by decide +kernel
theorem dL_law_663 : decode cL_law 663 = .ok (.iadd, 1) := by decide +kernel
theorem dL_law_664 : decode cL_law 664 = .ok (.iaload, 1) := by decide +kernel
theorem dL_law_665 : decode cL_law 665 = .ok (.invokevirtual 105, 3) := by decide +kernel
theorem dL_law_668 : decode cL_law 668 = .ok (.if_icmp .eq 266, 3) := by decide +kernel
theorem dL_law_671 : decode cL_law 671 = .ok (.iconst 0, 1) := by decide +kernel
theorem dL_law_672 : decode cL_law 672 = .ok (.ireturn, 1) := by decide +kernel
theorem dL_law_673 : decode cL_law 673 = .ok (.aload_n 1, 1) := by decide +kernel
theorem dL_law_674 : decode cL_law 674 = .ok (.aload_n 0, 1) := by decide +kernel
theorem dL_law_675 : decode cL_law 675 = .ok (.iload_n 3, 1) := by decide +kernel
theorem dL_law_676 : decode cL_law 676 = .ok (.iconst 1, 1) := by decide +kernel
theorem dL_law_677 : decode cL_law 677 = .ok (.iadd, 1) := by decide +kernel
theorem dL_law_678 : decode cL_law 678 = .ok (.iaload, 1) := by decide +kernel
theorem dL_law_679 : decode cL_law 679 = .ok (.invokevirtual 106, 3) := by decide +kernel
theorem dL_law_682 : decode cL_law 682 = .ok (.aload_n 2, 1) := by decide +kernel
theorem dL_law_683 : decode cL_law 683 = .ok (.aload_n 0, 1) := by decide +kernel
theorem dL_law_684 : decode cL_law 684 = .ok (.iload_n 3, 1) := by decide +kernel
theorem dL_law_685 : decode cL_law 685 = .ok (.iconst 1, 1) := by decide +kernel
theorem dL_law_686 : decode cL_law 686 = .ok (.iadd, 1) := by decide +kernel
theorem dL_law_687 : decode cL_law 687 = .ok (.iaload, 1) := by decide +kernel
theorem dL_law_688 : decode cL_law 688 = .ok (.invokevirtual 109, 3) := by decide +kernel
theorem dL_law_691 : decode cL_law 691 = .ok (.if_icmp .eq 243, 3) := by decide +kernel
theorem dL_law_694 : decode cL_law 694 = .ok (.iconst 0, 1) := by decide +kernel
theorem dL_law_695 : decode cL_law 695 = .ok (.ireturn, 1) := by decide +kernel
theorem dL_law_696 : decode cL_law 696 = .ok (.aload_n 1, 1) := by decide +kernel
theorem dL_law_697 : decode cL_law 697 = .ok (.aload_n 0, 1) := by decide +kernel
theorem dL_law_698 : decode cL_law 698 = .ok (.iload_n 3, 1) := by decide +kernel
theorem dL_law_699 : decode cL_law 699 = .ok (.iconst 1, 1) := by decide +kernel
theorem dL_law_700 : decode cL_law 700 = .ok (.iadd, 1) := by decide +kernel
theorem dL_law_701 : decode cL_law 701 = .ok (.iaload, 1) := by decide +kernel
theorem dL_law_702 : decode cL_law 702 = .ok (.aload_n 0, 1) := by decide +kernel
theorem dL_law_703 : decode cL_law 703 = .ok (.iload_n 3, 1) := by decide +kernel
theorem dL_law_704 : decode cL_law 704 = .ok (.iconst 2, 1) := by decide +kernel
theorem dL_law_705 : decode cL_law 705 = .ok (.iadd, 1) := by decide +kernel
theorem dL_law_706 : decode cL_law 706 = .ok (.iaload, 1) := by decide +kernel
theorem dL_law_707 : decode cL_law 707 = .ok (.invokevirtual 110, 3) := by decide +kernel
theorem dL_law_710 : decode cL_law 710 = .ok (.aload_n 2, 1) := by decide +kernel
theorem dL_law_711 : decode cL_law 711 = .ok (.aload_n 0, 1) := by decide +kernel
theorem dL_law_712 : decode cL_law 712 = .ok (.iload_n 3, 1) := by decide +kernel
theorem dL_law_713 : decode cL_law 713 = .ok (.iconst 1, 1) := by decide +kernel
theorem dL_law_714 : decode cL_law 714 = .ok (.iadd, 1) := by decide +kernel
theorem dL_law_715 : decode cL_law 715 = .ok (.iaload, 1) := by decide +kernel
theorem dL_law_716 : decode cL_law 716 = .ok (.aload_n 0, 1) := by decide +kernel
theorem dL_law_717 : decode cL_law 717 = .ok (.iload_n 3, 1) := by decide +kernel
theorem dL_law_718 : decode cL_law 718 = .ok (.iconst 2, 1) := by decide +kernel
theorem dL_law_719 : decode cL_law 719 = .ok (.iadd, 1) := by decide +kernel
theorem dL_law_720 : decode cL_law 720 = .ok (.iaload, 1) := by decide +kernel
theorem dL_law_721 : decode cL_law 721 = .ok (.invokevirtual 113, 3) := by decide +kernel
theorem dL_law_724 : decode cL_law 724 = .ok (.if_icmp .eq 210, 3) := by decide +kernel
theorem dL_law_727 : decode cL_law 727 = .ok (.iconst 0, 1) := by decide +kernel
theorem dL_law_728 : decode cL_law 728 = .ok (.ireturn, 1) := by decide +kernel
theorem dL_law_729 : decode cL_law 729 = .ok (.aload_n 1, 1) := by decide +kernel
theorem dL_law_730 : decode cL_law 730 = .ok (.invokevirtual 114, 3) := by decide +kernel
theorem dL_law_733 : decode cL_law 733 = .ok (.aload_n 2, 1) := by decide +kernel
theorem dL_law_734 : decode cL_law 734 = .ok (.invokevirtual 117, 3) := by decide +kernel
theorem dL_law_737 : decode cL_law 737 = .ok (.if_icmp .eq 197, 3) := by decide +kernel
theorem dL_law_740 : decode cL_law 740 = .ok (.iconst 0, 1) := by decide +kernel
theorem dL_law_741 : decode cL_law 741 = .ok (.ireturn, 1) := by decide +kernel
theorem dL_law_742 : decode cL_law 742 = .ok (.aload_n 1, 1) := by decide +kernel
theorem dL_law_743 : decode cL_law 743 = .ok (.invokevirtual 118, 3) := by decide +kernel
theorem dL_law_746 : decode cL_law 746 = .ok (.aload_n 2, 1) := by decide +kernel
theorem dL_law_747 : decode cL_law 747 = .ok (.invokevirtual 121, 3) := by decide +kernel
theorem dL_law_750 : decode cL_law 750 = .ok (.if_icmp .eq 184, 3) := by decide +kernel
theorem dL_law_753 : decode cL_law 753 = .ok (.iconst 0, 1) := by decide +kernel
theorem dL_law_754 : decode cL_law 754 = .ok (.ireturn, 1) := by decide +kernel
theorem dL_law_755 : decode cL_law 755 = .ok (.aload_n 1, 1) := by decide +kernel
theorem dL_law_756 : decode cL_law 756 = .ok (.aload_n 0, 1) := by decide +kernel
theorem dL_law_757 : decode cL_law 757 = .ok (.iload_n 3, 1) := by decide +kernel
theorem dL_law_758 : decode cL_law 758 = .ok (.iconst 1, 1) := by decide +kernel
theorem dL_law_759 : decode cL_law 759 = .ok (.iadd, 1) := by decide +kernel
theorem dL_law_760 : decode cL_law 760 = .ok (.iaload, 1) := by decide +kernel
theorem dL_law_761 : decode cL_law 761 = .ok (.aload_n 0, 1) := by decide +kernel
theorem dL_law_762 : decode cL_law 762 = .ok (.iload_n 3, 1) := by decide +kernel
theorem dL_law_763 : decode cL_law 763 = .ok (.iconst 2, 1) := by decide +kernel
theorem dL_law_764 : decode cL_law 764 = .ok (.iadd, 1) := by decide +kernel
theorem dL_law_765 : decode cL_law 765 = .ok (.iaload, 1) := by decide +kernel
theorem dL_law_766 : decode cL_law 766 = .ok (.aload_n 0, 1) := by decide +kernel
theorem dL_law_767 : decode cL_law 767 = .ok (.iload_n 3, 1) := by decide +kernel
theorem dL_law_768 : decode cL_law 768 = .ok (.iconst 3, 1) := by decide +kernel
theorem dL_law_769 : decode cL_law 769 = .ok (.iadd, 1) := by decide +kernel
theorem dL_law_770 : decode cL_law 770 = .ok (.iaload, 1) := by decide +kernel
theorem dL_law_771 : decode cL_law 771 = .ok (.aload_n 0, 1) := by decide +kernel
theorem dL_law_772 : decode cL_law 772 = .ok (.iload_n 3, 1) := by decide +kernel
theorem dL_law_773 : decode cL_law 773 = .ok (.iconst 4, 1) := by decide +kernel
theorem dL_law_774 : decode cL_law 774 = .ok (.iadd, 1) := by decide +kernel
theorem dL_law_775 : decode cL_law 775 = .ok (.iaload, 1) := by decide +kernel
theorem dL_law_776 : decode cL_law 776 = .ok (.aload_n 0, 1) := by decide +kernel
theorem dL_law_777 : decode cL_law 777 = .ok (.iload_n 3, 1) := by decide +kernel
theorem dL_law_778 : decode cL_law 778 = .ok (.iconst 5, 1) := by decide +kernel
theorem dL_law_779 : decode cL_law 779 = .ok (.iadd, 1) := by decide +kernel
theorem dL_law_780 : decode cL_law 780 = .ok (.iaload, 1) := by decide +kernel
theorem dL_law_781 : decode cL_law 781 = .ok (.invokevirtual 122, 3) := by decide +kernel
theorem dL_law_784 : decode cL_law 784 = .ok (.aload_n 2, 1) := by decide +kernel
theorem dL_law_785 : decode cL_law 785 = .ok (.aload_n 0, 1) := by decide +kernel
theorem dL_law_786 : decode cL_law 786 = .ok (.iload_n 3, 1) := by decide +kernel
theorem dL_law_787 : decode cL_law 787 = .ok (.iconst 1, 1) := by decide +kernel
theorem dL_law_788 : decode cL_law 788 = .ok (.iadd, 1) := by decide +kernel
theorem dL_law_789 : decode cL_law 789 = .ok (.iaload, 1) := by decide +kernel
theorem dL_law_790 : decode cL_law 790 = .ok (.aload_n 0, 1) := by decide +kernel
theorem dL_law_791 : decode cL_law 791 = .ok (.iload_n 3, 1) := by decide +kernel
theorem dL_law_792 : decode cL_law 792 = .ok (.iconst 2, 1) := by decide +kernel
theorem dL_law_793 : decode cL_law 793 = .ok (.iadd, 1) := by decide +kernel
theorem dL_law_794 : decode cL_law 794 = .ok (.iaload, 1) := by decide +kernel
theorem dL_law_795 : decode cL_law 795 = .ok (.aload_n 0, 1) := by decide +kernel
theorem dL_law_796 : decode cL_law 796 = .ok (.iload_n 3, 1) := by decide +kernel
theorem dL_law_797 : decode cL_law 797 = .ok (.iconst 3, 1) := by decide +kernel
theorem dL_law_798 : decode cL_law 798 = .ok (.iadd, 1) := by decide +kernel
theorem dL_law_799 : decode cL_law 799 = .ok (.iaload, 1) := by decide +kernel
theorem dL_law_800 : decode cL_law 800 = .ok (.aload_n 0, 1) := by decide +kernel
theorem dL_law_801 : decode cL_law 801 = .ok (.iload_n 3, 1) := by decide +kernel
theorem dL_law_802 : decode cL_law 802 = .ok (.iconst 4, 1) := by decide +kernel
theorem dL_law_803 : decode cL_law 803 = .ok (.iadd, 1) := by decide +kernel
theorem dL_law_804 : decode cL_law 804 = .ok (.iaload, 1) := by decide +kernel
theorem dL_law_805 : decode cL_law 805 = .ok (.aload_n 0, 1) := by decide +kernel
theorem dL_law_806 : decode cL_law 806 = .ok (.iload_n 3, 1) := by decide +kernel
theorem dL_law_807 : decode cL_law 807 = .ok (.iconst 5, 1) := by decide +kernel
theorem dL_law_808 : decode cL_law 808 = .ok (.iadd, 1) := by decide +kernel
theorem dL_law_809 : decode cL_law 809 = .ok (.iaload, 1) := by decide +kernel
theorem dL_law_810 : decode cL_law 810 = .ok (.invokevirtual 126, 3) := by decide +kernel
theorem dL_law_813 : decode cL_law 813 = .ok (.if_icmp .eq 121, 3) := by decide +kernel
theorem dL_law_816 : decode cL_law 816 = .ok (.iconst 0, 1) := by decide +kernel
theorem dL_law_817 : decode cL_law 817 = .ok (.ireturn, 1) := by decide +kernel
theorem dL_law_818 : decode cL_law 818 = .ok (.aload_n 1, 1) := by decide +kernel
theorem dL_law_819 : decode cL_law 819 = .ok (.aload_n 0, 1) := by decide +kernel
theorem dL_law_820 : decode cL_law 820 = .ok (.iload_n 3, 1) := by decide +kernel
theorem dL_law_821 : decode cL_law 821 = .ok (.iconst 1, 1) := by decide +kernel
theorem dL_law_822 : decode cL_law 822 = .ok (.iadd, 1) := by decide +kernel
theorem dL_law_823 : decode cL_law 823 = .ok (.iaload, 1) := by decide +kernel
theorem dL_law_824 : decode cL_law 824 = .ok (.aload_n 0, 1) := by decide +kernel
theorem dL_law_825 : decode cL_law 825 = .ok (.iload_n 3, 1) := by decide +kernel
theorem dL_law_826 : decode cL_law 826 = .ok (.iconst 2, 1) := by decide +kernel
theorem dL_law_827 : decode cL_law 827 = .ok (.iadd, 1) := by decide +kernel
theorem dL_law_828 : decode cL_law 828 = .ok (.iaload, 1) := by decide +kernel
theorem dL_law_829 : decode cL_law 829 = .ok (.invokevirtual 127, 3) := by decide +kernel
theorem dL_law_832 : decode cL_law 832 = .ok (.aload_n 2, 1) := by decide +kernel
theorem dL_law_833 : decode cL_law 833 = .ok (.aload_n 0, 1) := by decide +kernel
theorem dL_law_834 : decode cL_law 834 = .ok (.iload_n 3, 1) := by decide +kernel
theorem dL_law_835 : decode cL_law 835 = .ok (.iconst 1, 1) := by decide +kernel
theorem dL_law_836 : decode cL_law 836 = .ok (.iadd, 1) := by decide +kernel
theorem dL_law_837 : decode cL_law 837 = .ok (.iaload, 1) := by decide +kernel
theorem dL_law_838 : decode cL_law 838 = .ok (.aload_n 0, 1) := by decide +kernel
theorem dL_law_839 : decode cL_law 839 = .ok (.iload_n 3, 1) := by decide +kernel
theorem dL_law_840 : decode cL_law 840 = .ok (.iconst 2, 1) := by decide +kernel
theorem dL_law_841 : decode cL_law 841 = .ok (.iadd, 1) := by decide +kernel
theorem dL_law_842 : decode cL_law 842 = .ok (.iaload, 1) := by decide +kernel
theorem dL_law_843 : decode cL_law 843 = .ok (.invokevirtual 130, 3) := by decide +kernel
theorem dL_law_846 : decode cL_law 846 = .ok (.if_icmp .eq 88, 3) := by decide +kernel
theorem dL_law_849 : decode cL_law 849 = .ok (.iconst 0, 1) := by decide +kernel
theorem dL_law_850 : decode cL_law 850 = .ok (.ireturn, 1) := by decide +kernel
theorem dL_law_851 : decode cL_law 851 = .ok (.aload_n 1, 1) := by decide +kernel
theorem dL_law_852 : decode cL_law 852 = .ok (.aload_n 0, 1) := by decide +kernel
theorem dL_law_853 : decode cL_law 853 = .ok (.iload_n 3, 1) := by decide +kernel
theorem dL_law_854 : decode cL_law 854 = .ok (.iconst 1, 1) := by decide +kernel
theorem dL_law_855 : decode cL_law 855 = .ok (.iadd, 1) := by decide +kernel
theorem dL_law_856 : decode cL_law 856 = .ok (.iaload, 1) := by decide +kernel
theorem dL_law_857 : decode cL_law 857 = .ok (.invokevirtual 131, 3) := by decide +kernel
theorem dL_law_860 : decode cL_law 860 = .ok (.aload_n 2, 1) := by decide +kernel
theorem dL_law_861 : decode cL_law 861 = .ok (.aload_n 0, 1) := by decide +kernel
theorem dL_law_862 : decode cL_law 862 = .ok (.iload_n 3, 1) := by decide +kernel
theorem dL_law_863 : decode cL_law 863 = .ok (.iconst 1, 1) := by decide +kernel
theorem dL_law_864 : decode cL_law 864 = .ok (.iadd, 1) := by decide +kernel
theorem dL_law_865 : decode cL_law 865 = .ok (.iaload, 1) := by decide +kernel
theorem dL_law_866 : decode cL_law 866 = .ok (.invokevirtual 134, 3) := by decide +kernel
theorem dL_law_869 : decode cL_law 869 = .ok (.if_icmp .eq 65, 3) := by decide +kernel
theorem dL_law_872 : decode cL_law 872 = .ok (.iconst 0, 1) := by decide +kernel
theorem dL_law_873 : decode cL_law 873 = .ok (.ireturn, 1) := by decide +kernel
theorem dL_law_874 : decode cL_law 874 = .ok (.aload_n 1, 1) := by decide +kernel
theorem dL_law_875 : decode cL_law 875 = .ok (.aload_n 0, 1) := by decide +kernel
theorem dL_law_876 : decode cL_law 876 = .ok (.iload_n 3, 1) := by decide +kernel
theorem dL_law_877 : decode cL_law 877 = .ok (.iconst 1, 1) := by decide +kernel
theorem dL_law_878 : decode cL_law 878 = .ok (.iadd, 1) := by decide +kernel
theorem dL_law_879 : decode cL_law 879 = .ok (.iaload, 1) := by decide +kernel
theorem dL_law_880 : decode cL_law 880 = .ok (.invokevirtual 135, 3) := by decide +kernel
theorem dL_law_883 : decode cL_law 883 = .ok (.aload_n 2, 1) := by decide +kernel
theorem dL_law_884 : decode cL_law 884 = .ok (.aload_n 0, 1) := by decide +kernel
theorem dL_law_885 : decode cL_law 885 = .ok (.iload_n 3, 1) := by decide +kernel
theorem dL_law_886 : decode cL_law 886 = .ok (.iconst 1, 1) := by decide +kernel
theorem dL_law_887 : decode cL_law 887 = .ok (.iadd, 1) := by decide +kernel
theorem dL_law_888 : decode cL_law 888 = .ok (.iaload, 1) := by decide +kernel
theorem dL_law_889 : decode cL_law 889 = .ok (.invokevirtual 138, 3) := by decide +kernel
theorem dL_law_892 : decode cL_law 892 = .ok (.if_icmp .eq 42, 3) := by decide +kernel
theorem dL_law_895 : decode cL_law 895 = .ok (.iconst 0, 1) := by decide +kernel
theorem dL_law_896 : decode cL_law 896 = .ok (.ireturn, 1) := by decide +kernel
theorem dL_law_897 : decode cL_law 897 = .ok (.aload_n 1, 1) := by decide +kernel
theorem dL_law_898 : decode cL_law 898 = .ok (.aload_n 0, 1) := by decide +kernel
theorem dL_law_899 : decode cL_law 899 = .ok (.iload_n 3, 1) := by decide +kernel
theorem dL_law_900 : decode cL_law 900 = .ok (.iconst 1, 1) := by decide +kernel
theorem dL_law_901 : decode cL_law 901 = .ok (.iadd, 1) := by decide +kernel
theorem dL_law_902 : decode cL_law 902 = .ok (.iaload, 1) := by decide +kernel
theorem dL_law_903 : decode cL_law 903 = .ok (.invokevirtual 139, 3) := by decide +kernel
theorem dL_law_906 : decode cL_law 906 = .ok (.aload_n 2, 1) := by decide +kernel
theorem dL_law_907 : decode cL_law 907 = .ok (.aload_n 0, 1) := by decide +kernel
theorem dL_law_908 : decode cL_law 908 = .ok (.iload_n 3, 1) := by decide +kernel
theorem dL_law_909 : decode cL_law 909 = .ok (.iconst 1, 1) := by decide +kernel
theorem dL_law_910 : decode cL_law 910 = .ok (.iadd, 1) := by decide +kernel
theorem dL_law_911 : decode cL_law 911 = .ok (.iaload, 1) := by decide +kernel
theorem dL_law_912 : decode cL_law 912 = .ok (.invokevirtual 142, 3) := by decide +kernel
theorem dL_law_915 : decode cL_law 915 = .ok (.if_icmp .eq 19, 3) := by decide +kernel
theorem dL_law_918 : decode cL_law 918 = .ok (.iconst 0, 1) := by decide +kernel
theorem dL_law_919 : decode cL_law 919 = .ok (.ireturn, 1) := by decide +kernel
theorem dL_law_920 : decode cL_law 920 = .ok (.aload_n 1, 1) := by decide +kernel
theorem dL_law_921 : decode cL_law 921 = .ok (.invokevirtual 143, 3) := by decide +kernel
theorem dL_law_924 : decode cL_law 924 = .ok (.aload_n 2, 1) := by decide +kernel
theorem dL_law_925 : decode cL_law 925 = .ok (.invokevirtual 147, 3) := by decide +kernel
theorem dL_law_928 : decode cL_law 928 = .ok (.lcmp, 1) := by decide +kernel
theorem dL_law_929 : decode cL_law 929 = .ok (.ifCond .eq 5, 3) := by decide +kernel
theorem dL_law_932 : decode cL_law 932 = .ok (.iconst 0, 1) := by decide +kernel
theorem dL_law_933 : decode cL_law 933 = .ok (.ireturn, 1) := by decide +kernel
theorem dL_law_934 : decode cL_law 934 = .ok (.iinc 3 6, 3) := by decide +kernel
theorem dL_law_937 : decode cL_law 937 = .ok (.goto (-919), 3) := by decide +kernel
theorem dL_law_940 : decode cL_law 940 = .ok (.iconst 1, 1) := by decide +kernel
theorem dL_law_941 : decode cL_law 941 = .ok (.ireturn, 1) := by decide +kernel
end
section
/-! The abstract state: cells z, z+1, .. of known kinds; their refs R, ints I, longs L. -/
abbrev bq_K : Type := Nat ⊕ (Nat × Nat)
abbrev bq_IR : Type := Nat → Nat → Int32
abbrev bq_LR : Type := Nat → Nat → Int64
abbrev bq_RR : Type := Nat → Nat → Option Nat
abbrev bq_LS : Type := List (Option Value)
abbrev bq_D : Type := va_G × (Nat → ClassId) × (Nat → Nat)
def bq_kinds : List bq_K := [.inl 8, .inl 3, .inr (0, 200), .inl 7, .inr (0, 3),
  .inl 0, .inr (0, 5), .inl 5, .inr (0, 8), .inr (0, 8), .inr (0, 8),
  .inl 0, .inr (0, 5), .inl 5, .inr (0, 8), .inr (0, 8), .inr (0, 8),
  .inl 5, .inr (0, 8), .inr (0, 8), .inr (0, 8),
  .inl 5, .inr (0, 8), .inr (0, 8), .inr (0, 8),
  .inl 6, .inr (3, 8),
  .inl 5, .inr (0, 8), .inr (0, 8), .inr (0, 8), .inl 5, .inr (0, 8), .inr (0, 8), .inr (0, 8),
  .inl 5, .inr (0, 8), .inr (0, 8), .inr (0, 8), .inl 5, .inr (0, 8), .inr (0, 8), .inr (0, 8),
  .inl 5, .inr (0, 8), .inr (0, 8), .inr (0, 8), .inl 5, .inr (0, 8), .inr (0, 8), .inr (0, 8),
  .inl 5, .inr (0, 8), .inr (0, 8), .inr (0, 8), .inl 5, .inr (0, 8), .inr (0, 8), .inr (0, 8),
  .inr (3, 2),
  .inl 5, .inr (0, 8), .inr (0, 8), .inr (0, 8), .inl 5, .inr (0, 8), .inr (0, 8), .inr (0, 8),
  .inr (2, 2),
  .inl 4, .inr (0, 4), .inr (0, 4),
  .inl 1, .inr (1, 10), .inl 2,
  .inl 9, .inr (0, 200), .inr (0, 32), .inr (0, 32), .inr (0, 59), .inr (0, 472), .inr (0, 118), .inr (2, 2), .inr (0, 8), .inr (0, 59)]
def bq_sh (a : Nat) : bq_K := bq_kinds.getD a (.inr (9, 0))
def bq_nf (ci : Nat) : Nat := match ci with | 0 => 3 | 1 => 2 | 2 => 1 | 3 => 2 | 4 => 3 | 5 => 12 | 6 => 3 | 7 => 6 | 8 => 13 | _ => 20
def bq_Rn (ci : Nat) : String := match ci with | 0 => RX0 | 1 => RX1 | 2 => RX2 | 3 => RX3 | 4 => RX4 | 5 => RX5 | 6 => RX6 | 7 => RX7 | 8 => RX8 | _ => RX9
def bq_Tn (ci : Nat) : u_T := match ci with | 0 => TX0 | 1 => TX1 | 2 => TX2 | 3 => TX3 | 4 => TX4 | 5 => TX5 | 6 => TX6 | 7 => TX7 | 8 => TX8 | _ => TX9
def bq_ty (ci : Nat) : Nat → FieldType := match ci with | 0 => tyX0 | 1 => tyX1 | 2 => tyX2 | 3 => tyX3 | 4 => tyX4 | 5 => tyX5 | 6 => tyX6 | 7 => tyX7 | 8 => tyX8 | _ => tyX9
theorem bq_cases {P : Nat → Prop} (h0 : P 0) (h1 : P 1) (h2 : P 2) (h3 : P 3) (h4 : P 4) (h5 : P 5) (h6 : P 6) (h7 : P 7) (h8 : P 8) (h9 : P 9) {ci : Nat} (h : ci < 10) : P ci := by
  match ci, h with
  | 0, _ => exact h0
  | 1, _ => exact h1
  | 2, _ => exact h2
  | 3, _ => exact h3
  | 4, _ => exact h4
  | 5, _ => exact h5
  | 6, _ => exact h6
  | 7, _ => exact h7
  | 8, _ => exact h8
  | 9, _ => exact h9
  | n + 10, h => omega
theorem bq_cl {ci : Nat} (h : ci < 10) : vwCl[ci]? = some (bq_Rn ci, bq_Tn ci, bq_nf ci) := bq_cases (P := fun ci => vwCl[ci]? = some (bq_Rn ci, bq_Tn ci, bq_nf ci)) rfl rfl rfl rfl rfl rfl rfl rfl rfl rfl h
theorem bq_tyok {ci : Nat} (h : ci < 10) : ∀ k, k < bq_nf ci → parseFieldDescriptor (bq_Tn ci k).2.2.1 = some (bq_ty ci k) := bq_cases (P := fun ci => ∀ k, k < bq_nf ci → parseFieldDescriptor (bq_Tn ci k).2.2.1 = some (bq_ty ci k)) tyX0_ok tyX1_ok tyX2_ok tyX3_ok tyX4_ok tyX5_ok tyX6_ok tyX7_ok tyX8_ok tyX9_ok h
theorem bq_nm {ci : Nat} (h : ci < 10) : ∀ a, a < bq_nf ci → ∀ b, b < bq_nf ci → a ≠ b → (bq_Tn ci a).2.1 ≠ (bq_Tn ci b).2.1 := bq_cases (P := fun ci => ∀ a, a < bq_nf ci → ∀ b, b < bq_nf ci → a ≠ b → (bq_Tn ci a).2.1 ≠ (bq_Tn ci b).2.1) nmX0 nmX1 nmX2 nmX3 nmX4 nmX5 nmX6 nmX7 nmX8 nmX9 h
def bq_tbl : List Cond := lw_tbl.filter goodWord
theorem bq_mem {w : Cond} (h : w ∈ lw_tbl) (g : goodWord w = true) : w ∈ bq_tbl := List.mem_filter.mpr ⟨h, g⟩
set_option maxRecDepth 100000 in
theorem bq_in0 : ∀ w ∈ wsX00, w ∈ bq_tbl := by decide +kernel
set_option maxRecDepth 100000 in
theorem bq_in1 : ∀ w ∈ wsX10, w ∈ bq_tbl := by decide +kernel
set_option maxRecDepth 100000 in
theorem bq_in2 : ∀ w ∈ wsX20, w ∈ bq_tbl := by decide +kernel
set_option maxRecDepth 100000 in
theorem bq_in3 : ∀ w ∈ wsX30, w ∈ bq_tbl := by decide +kernel
set_option maxRecDepth 100000 in
theorem bq_in4 : ∀ w ∈ wsX40, w ∈ bq_tbl := by decide +kernel
set_option maxRecDepth 100000 in
theorem bq_in5 : ∀ w ∈ wsX50, w ∈ bq_tbl := by decide +kernel
set_option maxRecDepth 100000 in
theorem bq_in6 : ∀ w ∈ wsX60, w ∈ bq_tbl := by decide +kernel
set_option maxRecDepth 100000 in
theorem bq_in7 : ∀ w ∈ wsX70, w ∈ bq_tbl := by decide +kernel
set_option maxRecDepth 100000 in
theorem bq_in8 : ∀ w ∈ wsX80, w ∈ bq_tbl := by decide +kernel
set_option maxRecDepth 100000 in
theorem bq_in9 : ∀ w ∈ wsX90, w ∈ bq_tbl := by decide +kernel
theorem bq_in {ci : Nat} (h : ci < 10) : ∀ w ∈ u_ws (bq_Rn ci) (bq_Tn ci) (bq_nf ci), w ∈ bq_tbl := bq_cases (P := fun ci => ∀ w ∈ u_ws (bq_Rn ci) (bq_Tn ci) (bq_nf ci), w ∈ bq_tbl) bq_in0 bq_in1 bq_in2 bq_in3 bq_in4 bq_in5 bq_in6 bq_in7 bq_in8 bq_in9 h
theorem bq_good {w : Cond} (h : w ∈ bq_tbl) : (w.onTables && w.keeps) = true ∨ ∃ ty, w = .arrayClass ty := good_of_word (List.mem_filter.mp h).2
theorem bq_goodIn {w : Cond} (h : w ∈ bq_tbl) : GoodIn bq_tbl (w :: bq_tbl) := fun v hv => by
  rcases List.mem_cons.mp hv with e | e
  · subst e; exact ⟨h, bq_good h⟩
  · exact ⟨e, bq_good e⟩
/-! cells -/
def bq_fv (t : FieldType) (r : Option Nat) (i : Int32) (l : Int64) : Value := match t with | .int => .int i | .long => .long l | _ => va_rf r
def bq_flds (ci : Nat) (r : Nat → Option Nat) (i : Nat → Int32) (l : Nat → Int64) : List Value := (List.range (bq_nf ci)).map (fun j => bq_fv (bq_ty ci j) (r j) (i j) (l j))
def bq_cell (D : bq_D) (k : bq_K) (r : Nat → Option Nat) (i : Nat → Int32) (l : Nat → Int64) : va_E := match k with
  | .inl ci => .inr (ci, bq_flds ci r i l)
  | .inr (0, n) => .inl (D.2.1 0, n, .inl i)
  | .inr (1, n) => .inl (D.2.1 1, n, .inr (.inl l))
  | .inr (2, n) => .inl (D.2.1 2, n, .inl i)
  | .inr (_, n) => .inl (D.2.1 3, n, .inr (.inr (.inr (.inr r))))
def bq_ws (z : Nat) (D : bq_D) (n : Nat) (R : bq_RR) (I : bq_IR) (L : bq_LR) : va_W := (List.range n).map (fun a => (z + a, bq_cell D (bq_sh a) (R a) (I a) (L a)))
def bq_sr {α : Type} (I : Nat → α) (a : Nat) (f : α) : Nat → α := fun x => if x = a then f else I x
theorem bq_sr_s {α : Type} (I : Nat → α) (a : Nat) (f : α) : bq_sr I a f a = f := if_pos rfl
theorem bq_sr_n {α : Type} {I : Nat → α} {a b : Nat} {f : α} (h : b ≠ a) : bq_sr I a f b = I b := if_neg h
theorem bq_sr_sr {α : Type} (I : Nat → α) (a : Nat) (f g : α) : bq_sr (bq_sr I a f) a g = bq_sr I a g := by
  funext x; unfold bq_sr; split <;> rfl
theorem bq_sr_c {α : Type} {I : Nat → α} {a b : Nat} {f g : α} (h : a ≠ b) : bq_sr (bq_sr I a f) b g = bq_sr (bq_sr I b g) a f := by
  funext x; unfold bq_sr; by_cases h1 : x = a <;> by_cases h2 : x = b <;> simp [h1, h2] <;> (intro h3; omega)
theorem bq_sr_id {α : Type} (I : Nat → α) (a : Nat) : bq_sr I a (I a) = I := by
  funext x; unfold bq_sr; split
  · rename_i h; rw [h]
  · rfl
theorem bq_ws_get {z : Nat} {D : bq_D} {n a : Nat} {R : bq_RR} {I : bq_IR} {L : bq_LR} (h : a < n) : (bq_ws z D n R I L)[a]? = some (z + a, bq_cell D (bq_sh a) (R a) (I a) (L a)) := by
  simp [bq_ws, h]
theorem bq_ws_lt {z : Nat} {D : bq_D} {n a : Nat} {R : bq_RR} {I : bq_IR} {L : bq_LR} {q : Nat × va_E} (h : (bq_ws z D n R I L)[a]? = some q) : a < n ∧ q = (z + a, bq_cell D (bq_sh a) (R a) (I a) (L a)) := by
  have h1 : a < n := by
    have := (List.getElem?_eq_some_iff.mp h).1
    simpa [bq_ws] using this
  rw [bq_ws_get h1] at h
  exact ⟨h1, (Option.some.inj h).symm⟩
theorem bq_ws_D (z : Nat) (D : bq_D) (n : Nat) (R : bq_RR) (I : bq_IR) (L : bq_LR) : va_D (fun q => z ≤ q) (bq_ws z D n R I L) := by
  refine ⟨fun i j p q hi hj e => ?_, fun k q hk => ?_⟩
  · obtain ⟨-, rfl⟩ := bq_ws_lt hi
    obtain ⟨-, rfl⟩ := bq_ws_lt hj
    simp only at e
    omega
  · obtain ⟨-, rfl⟩ := bq_ws_lt hk
    exact Nat.le_add_right _ _
theorem bq_ws_set {z : Nat} {D : bq_D} {n a : Nat} {R R' : bq_RR} {I I' : bq_IR} {L L' : bq_LR} (hR : ∀ x, x ≠ a → R' x = R x) (hI : ∀ x, x ≠ a → I' x = I x) (hL : ∀ x, x ≠ a → L' x = L x) {e : va_E} (he : e = bq_cell D (bq_sh a) (R' a) (I' a) (L' a)) : (bq_ws z D n R I L).set a (z + a, e) = bq_ws z D n R' I' L' := by
  subst he
  apply List.ext_getElem?
  intro k
  by_cases hk : k < n
  · by_cases hka : k = a
    · subst hka
      rw [List.getElem?_set_self (by simpa [bq_ws] using hk), bq_ws_get hk]
    · rw [List.getElem?_set_ne (Ne.symm hka), bq_ws_get hk, bq_ws_get hk, hR k hka, hI k hka, hL k hka]
  · have h1 : (bq_ws z D n R' I' L')[k]? = none := by simp [bq_ws]; omega
    have h2 : ((bq_ws z D n R I L).set a (z + a, bq_cell D (bq_sh a) (R' a) (I' a) (L' a)))[k]? = none := by simp [bq_ws]; omega
    rw [h1, h2]
/-! what the heap is -/
def bq_Rel (z : Nat) (D : bq_D) (n : Nat) (R : bq_RR) (I : bq_IR) (L : bq_LR) (H : Heap) : Prop := H.size = z + n ∧ va_P D.1 vwCl (bq_ws z D n R I L) H
def bq_tys (D : bq_D) : List (ClassId × FieldType) := [(D.2.1 0, .int), (D.2.1 1, .long), (D.2.1 2, .boolean), (D.2.1 3, .object "BroomFlood$Moment")]
def bq_OB (n a ci : Nat) : Prop := a < n ∧ bq_sh a = .inl ci
def bq_AR (n a t len : Nat) : Prop := a < n ∧ bq_sh a = .inr (t, len)
/-! locals -/
def bq_at : bq_LS → Nat → Option Value
  | [], _ => none
  | a :: _, 0 => a
  | _ :: l, k + 1 => bq_at l k
def bq_put : bq_LS → Nat → Option Value → bq_LS
  | [], _, _ => []
  | _ :: l, 0, v => v :: l
  | a :: l, k + 1, v => a :: bq_put l k v
def bq_nl : bq_LS → Nat → Bool
  | [], _ => true
  | _ :: _, 0 => true
  | some (.long _) :: _, 1 => false
  | some (.double _) :: _, 1 => false
  | _ :: _, 1 => true
  | _ :: l, k + 2 => bq_nl l (k + 1)
def bq_LV (arr : Array Slot) (nL : Nat) (ls : bq_LS) : Prop := arr.size = nL ∧ lv_wf arr ∧ ∀ (k : Nat) (v : Value), bq_at ls k = some v → arr[k]? = some (.val v)
theorem bq_at_put : ∀ (ls : bq_LS) (i k : Nat) (v : Option Value) (w : Value), bq_at (bq_put ls i v) k = some w → (k = i ∧ v = some w) ∨ (k ≠ i ∧ bq_at ls k = some w)
  | [], i, k, v, w, h => by simp [bq_put, bq_at] at h
  | a :: l, 0, 0, v, w, h => Or.inl ⟨rfl, h⟩
  | a :: l, 0, k + 1, v, w, h => Or.inr ⟨by omega, h⟩
  | a :: l, i + 1, 0, v, w, h => Or.inr ⟨by omega, h⟩
  | a :: l, i + 1, k + 1, v, w, h => by
    rcases bq_at_put l i k v w h with ⟨e, h1⟩ | ⟨e, h1⟩
    · exact Or.inl ⟨by omega, h1⟩
    · exact Or.inr ⟨by omega, h1⟩
theorem bq_nl_at : ∀ (ls : bq_LS) (k : Nat) (v : Value), bq_nl ls (k + 1) = true → bq_at ls k = some v → v.category = 1
  | [], k, v, _, h => by simp [bq_at] at h
  | a :: l, 0, v, hn, h => by
    have h' : a = some v := h
    subst h'
    cases v <;> first | rfl | (simp [bq_nl] at hn)
  | a :: l, k + 1, v, hn, h => bq_nl_at l k v (by
      cases k <;> (unfold bq_nl at hn; exact hn)) h
theorem bq_LV.at {arr : Array Slot} {nL : Nat} {ls : bq_LS} (h : bq_LV arr nL ls) {k : Nat} {v : Value} (hk : bq_at ls k = some v) : arr[k]? = some (.val v) := h.2.2 k v hk
theorem bq_has {arr : Array Slot} {nL : Nat} {ls : bq_LS} (h : bq_LV arr nL ls) (l : List (Nat × Value)) (hl : ∀ q ∈ l, bq_at ls q.1 = some q.2) : lv_has arr nL l := ⟨h.1, h.2.1, fun q hq => h.2.2 _ _ (hl q hq)⟩
theorem bq_store1 {arr : Array Slot} {nL : Nat} {ls : bq_LS} {i : Nat} {v : Value} (h : bq_LV arr nL ls) (hi : i < nL) (hn : bq_nl ls i = true) (hc : v.category = 1) : ∃ arr', storeLocals arr i v = some arr' ∧ bq_LV arr' nL (bq_put ls i (some v)) := by
  have key : ∀ l : List (Nat × Value), (∀ q ∈ l, bq_at ls q.1 = some q.2) → ∃ arr', storeLocals arr i v = some arr' ∧ lv_has arr' nL ((i, v) :: l.filter (fun q => !(q.1 == i) && !(q.1 + 1 == i && q.2.category == 2))) := fun l hl => lv_store1 (bq_has h l hl) hi hc
  obtain ⟨arr', e, h1⟩ := key [] (fun q hq => by cases hq)
  refine ⟨arr', e, h1.1, h1.2.1, fun k w hk => ?_⟩
  rcases bq_at_put ls i k (some v) w hk with ⟨e1, e2⟩ | ⟨e1, e2⟩
  · cases e2; subst e1
    exact h1.2.2 (k, v) List.mem_cons_self
  · obtain ⟨arr2, e3, h2⟩ := key [(k, w)] (fun q hq => by simp at hq; subst hq; exact e2)
    have : arr2 = arr' := Option.some.inj (e3.symm.trans e)
    subst this
    refine h2.2.2 (k, w) (List.mem_cons_of_mem _ (List.mem_filter.mpr ⟨by simp, ?_⟩))
    simp only [Bool.and_eq_true, Bool.not_eq_true', beq_eq_false_iff_ne, Bool.and_eq_false_iff]
    refine ⟨e1, ?_⟩
    by_cases hki : k + 1 = i
    · right
      subst hki
      rw [bq_nl_at ls k w hn e2]; decide
    · left; simpa using hki
theorem bq_store2 {arr : Array Slot} {nL : Nat} {ls : bq_LS} {i : Nat} {v : Value} (h : bq_LV arr nL ls) (hi : i + 1 < nL) (hn : bq_nl ls i = true) (hc : v.category = 2) : ∃ arr', storeLocals arr i v = some arr' ∧ bq_LV arr' nL (bq_put (bq_put ls i (some v)) (i + 1) none) := by
  have key : ∀ l : List (Nat × Value), (∀ q ∈ l, bq_at ls q.1 = some q.2) → ∃ arr', storeLocals arr i v = some arr' ∧ lv_has arr' nL ((i, v) :: l.filter (fun q => !(q.1 == i) && (!(q.1 == i + 1) && !(q.1 + 1 == i && q.2.category == 2)))) := fun l hl => lv_store2 (bq_has h l hl) hi hc
  obtain ⟨arr', e, h1⟩ := key [] (fun q hq => by cases hq)
  refine ⟨arr', e, h1.1, h1.2.1, fun k w hk => ?_⟩
  rcases bq_at_put _ (i + 1) k none w hk with ⟨e1, e2⟩ | ⟨e0, hk⟩
  · cases e2
  rcases bq_at_put ls i k (some v) w hk with ⟨e1, e2⟩ | ⟨e1, e2⟩
  · cases e2; subst e1
    exact h1.2.2 (k, v) List.mem_cons_self
  · obtain ⟨arr2, e3, h2⟩ := key [(k, w)] (fun q hq => by simp at hq; subst hq; exact e2)
    have : arr2 = arr' := Option.some.inj (e3.symm.trans e)
    subst this
    refine h2.2.2 (k, w) (List.mem_cons_of_mem _ (List.mem_filter.mpr ⟨by simp, ?_⟩))
    simp only [Bool.and_eq_true, Bool.not_eq_true', beq_eq_false_iff_ne, Bool.and_eq_false_iff]
    refine ⟨e1, e0, ?_⟩
    by_cases hki : k + 1 = i
    · right
      subst hki
      rw [bq_nl_at ls k w hn e2]; decide
    · left; simpa using hki
end
section
/-! a method's context, and what a contract is -/
def bq_AF (j : Nat) : Value := .int (([0, 4, 0, 10, 8] : List Int32).getD j 0)
def bq_LE (j : Nat) : Value := .int (([0, 1, 0, 0, 1, 1, 1, 1] : List Int32).getD j 0)
def bq_GR (j : Nat) : Value := .int (([99, 20, 20, 99, 8, 64, 40, 40] : List Int32).getD j 0)
def bq_wad : List (List Int32) := [[119, 97, 100, 109, 115, 98]]
/-- what the tables and the old heap say, beside the words -/
def bq_KK (z : Nat) (D : bq_D) (U : State) (H : Heap) : Prop :=
  va_K D.1 vwCl (bq_tys D) U ∧ (va_Nw (.methodLinkNest RX8 67 yX1_init RX8) U ∧ va_Nw (.methodLinkNest RX8 78 yX2_init RX8) U ∧ va_Nw (.methodLinkNest RX7 61 yX8_bitOf RX8) U ∧ va_Nw (.methodLinkNest RX5 43 yX8_bitOf RX8) U) ∧
  va_AO "BroomFlood$Moment" U ∧
  (va_Z RX0 "AT_FIRST" "[I" (.ref (D.2.2 0)) (fun q => z ≤ q) U H ∧ va_T .int (D.2.2 0) 5 bq_AF (fun q => z ≤ q) U H) ∧
  (va_Z RX7 "LEAST" "[I" (.ref (D.2.2 1)) (fun q => z ≤ q) U H ∧ va_T .int (D.2.2 1) 8 bq_LE (fun q => z ≤ q) U H) ∧
  (va_Z RX7 "GREATEST" "[I" (.ref (D.2.2 2)) (fun q => z ≤ q) U H ∧ va_T .int (D.2.2 2) 8 bq_GR (fun q => z ≤ q) U H) ∧
  vk_R RX7 36 "wadmsb" (D.2.2 3) U ∧ vk_S 1 [6] bq_wad (fun _ => D.2.2 3) (fun _ => D.2.2 4) (fun q => z ≤ q) U H ∧
  va_Z "java/lang/String" "COMPACT_STRINGS" "Z" (.int 1) (fun q => z ≤ q) U H
theorem bq_KK.call {z : Nat} {D : bq_D} {U : State} {H : Heap} (h : bq_KK z D U H) (g : JFrame) (mk : MethodId) (a : Array Value) : bq_KK z D (U.calling g mk a) H := by
  obtain ⟨h1, ⟨n1, n2, n3, n4⟩, h3, ⟨a1, a2⟩, ⟨b1, b2⟩, ⟨c1, c2⟩, r1, s1, cs⟩ := h
  have hv : U.vm.Alike (U.calling g mk a).vm := Vm.Alike.refl U.vm
  exact ⟨va_K.moved hv h1, ⟨va_Nw.same rfl rfl n1, va_Nw.same rfl rfl n2, va_Nw.same rfl rfl n3, va_Nw.same rfl rfl n4⟩, va_AO.moved hv h3, ⟨a1.moved hv, a2.moved hv⟩, ⟨b1.moved hv, b2.moved hv⟩, ⟨c1.moved hv, c2.moved hv⟩, vk_R.same rfl r1, vk_S.moved hv s1, cs.moved hv⟩
theorem bq_KK.go {z : Nat} {D : bq_D} {s U : State} {H : Heap} {locs : List Loc} (h : bq_KK z D s s.heap) (hW : s.WarmedH U.vm) (hS : va_S (fun q => z ≤ q) s.heap H locs) : bq_KK z D U H := by
  obtain ⟨h1, ⟨n1, n2, n3, n4⟩, h3, ⟨a1, a2⟩, ⟨b1, b2⟩, ⟨c1, c2⟩, r1, s1, cs⟩ := h
  have hv := hW.alike
  have hq := hS.2.1
  exact ⟨va_K.moved hv h1, ⟨va_Nw.warmM hW n1, va_Nw.warmM hW n2, va_Nw.warmM hW n3, va_Nw.warmM hW n4⟩, va_AO.moved hv h3, ⟨(a1.moved hv).kept hq, (a2.moved hv).kept hq⟩, ⟨(b1.moved hv).kept hq, (b2.moved hv).kept hq⟩, ⟨(c1.moved hv).kept hq, (c2.moved hv).kept hq⟩, vk_R.warm hW r1, vk_S.kept (vk_S.moved hv s1) hq, (cs.moved hv).kept hq⟩
abbrev bq_A : Type := Nat → Nat → Nat → bq_LS → List Value → Nat → bq_RR → bq_IR → bq_LR → Prop
def bq_Cx (cc : ByteArray) (own : String) (nL z : Nat) (Rm : Room) (nm : String) (A : bq_A) : Prop :=
  ∃ (p : Program) (l : Launch) (e : Env) (s : State) (m : MethodId) (args : Array Value) (below : List Frame) (meth : Method) (c : Code) (D : bq_D) (Q : State → Prop),
    p.tables.exec = Jvm.exec ∧ c.code = cc ∧ c.maxLocals = nL ∧ s.vm.findClass own = some m.cls ∧ (∀ w ∈ bq_tbl, w.before args s = true) ∧ bq_KK z D s s.heap ∧ z ≤ s.heap.size ∧ meth.name = nm ∧
    A = fun cells slots pc ls st n R I L => ∀ (H : Heap) (locs : List Loc) (arr : Array Slot), bq_Rel z D n R I L H → va_S (fun q => z ≤ q) s.heap H locs → bq_LV arr nL ls → W p l e Rm s m args below meth c H locs cells slots Q (F0 m pc arr st)
abbrev bq_M : Type := MethodName × ByteArray × Nat × Option FieldType × Nat × Nat
def bq_rm (M : bq_M) (mc ms : Nat) : Room := { frames := M.2.2.2.2.1, cells := mc, slots := ms, locals := M.2.2.2.2.2 }
def bq_FC (M : bq_M) (z : Nat) (av : List Value) (n : Nat) (R : bq_RR) (I : bq_IR) (L : bq_LR) (mc ms : Nat) (res : Option Value) (n' : Nat) (R' : bq_RR) (I' : bq_IR) (L' : bq_LR) : Prop :=
  ∀ (l : Launch) (D : bq_D), Met l M.1 (Cond.code M.1 M.2.1 M.2.2.1 M.2.2.2.1 :: bq_tbl) (bq_rm M mc ms) (va_Pc av (fun U => bq_KK z D U U.heap ∧ bq_Rel z D n R I L U.heap))
    (fun _ st o t => o = .returned res ∧ bq_Rel z D n' R' I' L' t.heap ∧ va_F (fun q => z ≤ q) st t) mc ms (fun q => z ≤ q)
def bq_fl : List Value → bq_LS
  | [] => []
  | .long x :: l => some (.long x) :: none :: bq_fl l
  | .double x :: l => some (.double x) :: none :: bq_fl l
  | v :: l => some v :: bq_fl l
def bq_pad : Nat → bq_LS → bq_LS
  | 0, _ => []
  | n + 1, [] => none :: bq_pad n []
  | n + 1, a :: l => a :: bq_pad n l
theorem bq_pad_at : ∀ (n : Nat) (l : bq_LS) (k : Nat) (v : Value), bq_at (bq_pad n l) k = some v → bq_at l k = some v
  | 0, l, k, v, h => by simp [bq_pad, bq_at] at h
  | n + 1, [], 0, v, h => by simp [bq_pad, bq_at] at h
  | n + 1, [], k + 1, v, h => by
    have h1 := bq_pad_at n [] k v h
    simp [bq_at] at h1
  | n + 1, a :: l, 0, v, h => h
  | n + 1, a :: l, k + 1, v, h => bq_pad_at n l k v h
theorem bq_ent_at : ∀ (av : List Value) (i k : Nat) (v : Value), bq_at (bq_fl av) k = some v → (i + k, v) ∈ lv_args i av
  | [], i, k, v, h => by simp [bq_fl, bq_at] at h
  | a :: av, i, k, v, h => by
    have one : ∀ w : Value, w.category = 1 → bq_fl (w :: av) = some w :: bq_fl av → a = w → (i + k, v) ∈ lv_args i (a :: av) := by
      intro w hc he e
      subst e
      rw [he] at h
      cases k with
      | zero =>
        have h' : a = v := Option.some.inj h
        subst h'
        exact List.mem_cons_self
      | succ k =>
        have h1 := bq_ent_at av (i + 1) k v h
        rw [show i + 1 + k = i + (k + 1) by omega] at h1
        unfold lv_args
        rw [if_neg (by omega)]
        exact List.mem_cons_of_mem _ h1
    have two : ∀ w : Value, w.category = 2 → bq_fl (w :: av) = some w :: none :: bq_fl av → a = w → (i + k, v) ∈ lv_args i (a :: av) := by
      intro w hc he e
      subst e
      rw [he] at h
      match k, h with
      | 0, h =>
        have h' : a = v := Option.some.inj h
        subst h'
        exact List.mem_cons_self
      | 1, h => cases h
      | k + 2, h =>
        have h1 := bq_ent_at av (i + 2) k v h
        rw [show i + 2 + k = i + (k + 2) by omega] at h1
        unfold lv_args
        rw [if_pos hc]
        exact List.mem_cons_of_mem _ h1
    cases a <;> first | exact one _ rfl rfl rfl | exact two _ rfl rfl rfl
theorem bq_LV.le {arr : Array Slot} {nL : Nat} {ls ls' : bq_LS} (h : bq_LV arr nL ls) (hs : ∀ (k : Nat) (v : Value), bq_at ls' k = some v → bq_at ls k = some v) : bq_LV arr nL ls' := ⟨h.1, h.2.1, fun k v hk => h.2.2 k v (hs k v hk)⟩
theorem bq_ofW {l : Launch} {y : MethodName} {ws ws' : List Cond} {rm : Room} {Pc : Array Value → State → Prop} {Qc : Array Value → State → Outcome → State → Prop} {mc ms : Nat} {free : Addr → Prop} {cc : ByteArray} {maxL : Nat} {ret : Option FieldType}
    (hy : plainFor y = true) (hw : ws = Cond.code y cc maxL ret :: ws')
    (body : ∀ p e s m args below meth c s₁, BodyLoose p l y (headSpec ws rm) cc maxL ret e s m args below meth c s₁ → c.maxLocals = maxL → Pc args s →
      W p l e (headSpec ws rm).room s m args below meth c s.heap [] 0 0 (MQ below Qc args s mc ms free) (entryFrame m args maxL)) : Met l y ws rm Pc Qc mc ms free := by
  refine MetFree.of_bodySF (code := cc) (maxLocals := maxL) (ret := ret) hy ?_ ?_
  · intro args s m h hn
    obtain ⟨meth, c, h1, h2, h3, h4, h5, h6, -, -⟩ := Cond.code_spec hn (atoms_spec (ws := ws) h _ (by rw [hw]; exact List.mem_cons_self))
    exact ⟨meth, c, h1, h2, h3, h4, h5, h6⟩
  · intro p e s m args below meth c s₁ B hml hP _
    have hh0 : s₁.heap = s.heap := by rw [B.state]; rfl
    obtain ⟨t, a1, o, b1, b2, b3⟩ := body p e s m args below meth c s₁ B hml hP s₁ hh0 (Stand.of_body B)
    exact ⟨t, o, a1, b1, b2, ⟨b3.1, b3.2⟩⟩
/-- the entry: a contract out of a walk -/
theorem bq_FC.of {M : bq_M} {z : Nat} {av : List Value} {n : Nat} {R : bq_RR} {I : bq_IR} {L : bq_LR} {mc ms : Nat} {res : Option Value} {n' : Nat} {R' : bq_RR} {I' : bq_IR} {L' : bq_LR} (ls0 : bq_LS) (hls : bq_pad M.2.2.1 (bq_fl av) = ls0) (hlen : (lg_sl av).length ≤ M.2.2.1) (hy : plainFor M.1 = true)
    (hres : (res = none ∧ M.2.2.2.1 = none) ∨ (∃ (r : Int32) (ty : FieldType), res = some (.int r) ∧ M.2.2.2.1 = some ty ∧ narrow ty (.int r) = .int r) ∨ (∃ r : Int64, res = some (.long r) ∧ M.2.2.2.1 = some .long))
    (h : ∀ A : bq_A, bq_Cx M.2.1 M.1.cls M.2.2.1 z (bq_rm M mc ms) M.1.name A →
      (∀ (pc : Nat) (ls : bq_LS), (res = none → decode M.2.1 pc = .ok (.return_, 1) → A mc ms pc ls [] n' R' I' L') ∧ (∀ r : Int32, res = some (.int r) → decode M.2.1 pc = .ok (.ireturn, 1) → A mc ms pc ls [.int r] n' R' I' L') ∧ (∀ r : Int64, res = some (.long r) → decode M.2.1 pc = .ok (.lreturn, 1) → A mc ms pc ls [.long r] n' R' I' L')) →
      A 0 0 0 ls0 [] n R I L) : bq_FC M z av n R I L mc ms res n' R' I' L' := by
  intro l D
  refine bq_ofW (cc := M.2.1) (maxL := M.2.2.1) (ret := M.2.2.2.1) hy rfl ?_
  intro p e s m args below meth c s₁ B hml hv
  obtain ⟨rfl, hKK, hRel⟩ := hv
  have hts := atoms_spec (ws := Cond.code M.1 M.2.1 M.2.2.1 M.2.2.2.1 :: bq_tbl) B.pre
  have hown : s.vm.findClass M.1.cls = some m.cls := findClass_of_methodNamed B.named
  have hlocks := B.notSynchronized
  have hr := B.returns
  have hin : meth.name = M.1.name := (name_of_methodNamed B.named B.method).1
  have hz : z ≤ s.heap.size := by rw [hRel.1]; exact Nat.le_add_right _ _
  have hl := lv_entry av (n := M.2.2.1) hlen
  rw [lg_entry_eq]
  generalize (lg_sl av ++ List.replicate (M.2.2.1 - (lg_sl av).length) Slot.unset).toArray = arr at hl ⊢
  have hLV : bq_LV arr M.2.2.1 ls0 := by
    refine ⟨hl.1, hl.2.1, fun k v hk => ?_⟩
    refine hl.2.2 (k, v) ?_
    have h2 : bq_at (bq_fl av) k = some v := bq_pad_at _ _ _ _ (by rw [hls]; exact hk)
    have h3 := bq_ent_at av 0 k v h2
    rwa [Nat.zero_add] at h3
  refine h _ ⟨p, l, e, s, m, av.toArray, below, meth, c, D, MQ below (fun _ st o t => o = .returned res ∧ bq_Rel z D n' R' I' L' t.heap ∧ va_F (fun q => z ≤ q) st t) av.toArray s mc ms (fun q => z ≤ q), B.exec, B.bytes, hml, hown, fun w hw => hts w (List.mem_cons_of_mem _ hw), hKK, hz, hin, rfl⟩ ?_ s.heap [] arr hRel va_S.rf hLV
  intro pc ls
  refine ⟨fun e hd => ?_, fun r e hd => ?_, fun r e hd => ?_⟩
  · intro H locs arr hR hS hl
    refine W.vret B.exec B.bytes ?_ (fun t ht hW => ⟨by rw [e], by rw [ht]; exact hR, hS.F ht⟩) hS.2.2 hd
    rcases hres with ⟨-, h1⟩ | ⟨r, ty, h0, -⟩ | ⟨r, h0, -⟩
    · rw [hr, h1]
    · rw [e] at h0; cases h0
    · rw [e] at h0; cases h0
  · intro H locs arr hR hS hl
    rcases hres with ⟨h0, h1⟩ | ⟨r', ty, h0, h1, h2⟩ | ⟨r, h0, -⟩
    · rw [e] at h0; cases h0
    · rw [e] at h0; cases h0
      exact W.zret B.exec B.bytes (hr.trans h1) h2 (fun t ht hW => ⟨by rw [e], by rw [ht]; exact hR, hS.F ht⟩) hS.2.2 hd
    · rw [e] at h0; cases h0
  · intro H locs arr hR hS hl
    rcases hres with ⟨h0, h1⟩ | ⟨r', ty, h0, h1, h2⟩ | ⟨r', h0, h1⟩
    · rw [e] at h0; cases h0
    · rw [e] at h0; cases h0
    · rw [e] at h0; cases h0
      exact W.lret B.exec B.bytes (hr.trans h1) (fun t ht hW => ⟨by rw [e], by rw [ht]; exact hR, hS.F ht⟩) hS.2.2 hd
theorem bq_ofI {M : bq_M} {z : Nat} {av : List Value} {n : Nat} {R : bq_RR} {I : bq_IR} {L : bq_LR} {mc ms : Nat} {r : Int32} {n' : Nat} {R' : bq_RR} {I' : bq_IR} {L' : bq_LR} (ls0 : bq_LS) (hls : bq_pad M.2.2.1 (bq_fl av) = ls0) (hlen : (lg_sl av).length ≤ M.2.2.1) (hy : plainFor M.1 = true) {ty : FieldType} (hty : M.2.2.2.1 = some ty) (hn : narrow ty (.int r) = .int r)
    (h : ∀ A : bq_A, bq_Cx M.2.1 M.1.cls M.2.2.1 z (bq_rm M mc ms) M.1.name A → (∀ (pc : Nat) (ls : bq_LS), decode M.2.1 pc = .ok (.ireturn, 1) → A mc ms pc ls [.int r] n' R' I' L') → A 0 0 0 ls0 [] n R I L) : bq_FC M z av n R I L mc ms (some (.int r)) n' R' I' L' :=
  bq_FC.of ls0 hls hlen hy (Or.inr (Or.inl ⟨r, ty, rfl, hty, hn⟩)) fun A G hr => h A G fun pc ls => (hr pc ls).2.1 r rfl
theorem bq_ofL {M : bq_M} {z : Nat} {av : List Value} {n : Nat} {R : bq_RR} {I : bq_IR} {L : bq_LR} {mc ms : Nat} {r : Int64} {n' : Nat} {R' : bq_RR} {I' : bq_IR} {L' : bq_LR} (ls0 : bq_LS) (hls : bq_pad M.2.2.1 (bq_fl av) = ls0) (hlen : (lg_sl av).length ≤ M.2.2.1) (hy : plainFor M.1 = true) (hty : M.2.2.2.1 = some .long)
    (h : ∀ A : bq_A, bq_Cx M.2.1 M.1.cls M.2.2.1 z (bq_rm M mc ms) M.1.name A → (∀ (pc : Nat) (ls : bq_LS), decode M.2.1 pc = .ok (.lreturn, 1) → A mc ms pc ls [.long r] n' R' I' L') → A 0 0 0 ls0 [] n R I L) : bq_FC M z av n R I L mc ms (some (.long r)) n' R' I' L' :=
  bq_FC.of ls0 hls hlen hy (Or.inr (Or.inr ⟨r, rfl, hty⟩)) fun A G hr => h A G fun pc ls => (hr pc ls).2.2 r rfl
theorem bq_ofV {M : bq_M} {z : Nat} {av : List Value} {n : Nat} {R : bq_RR} {I : bq_IR} {L : bq_LR} {mc ms : Nat} {n' : Nat} {R' : bq_RR} {I' : bq_IR} {L' : bq_LR} (ls0 : bq_LS) (hls : bq_pad M.2.2.1 (bq_fl av) = ls0) (hlen : (lg_sl av).length ≤ M.2.2.1) (hy : plainFor M.1 = true) (hty : M.2.2.2.1 = none)
    (h : ∀ A : bq_A, bq_Cx M.2.1 M.1.cls M.2.2.1 z (bq_rm M mc ms) M.1.name A → (∀ (pc : Nat) (ls : bq_LS), decode M.2.1 pc = .ok (.return_, 1) → A mc ms pc ls [] n' R' I' L') → A 0 0 0 ls0 [] n R I L) : bq_FC M z av n R I L mc ms none n' R' I' L' :=
  bq_FC.of ls0 hls hlen hy (Or.inl ⟨rfl, hty⟩) fun A G hr => h A G fun pc ls => (hr pc ls).1 rfl
end
section
section BqRows
variable {cc : ByteArray} {own nm : String} {nL z : Nat} {Rm : Room} {A : bq_A} {cells slots pc q n : Nat} {ls : bq_LS} {st : List Value} {R : bq_RR} {I : bq_IR} {L : bq_LR}
theorem bq_iadd (G : bq_Cx cc own nL z Rm nm A) {x y : Int32} (hd : decode cc pc = .ok (.iadd, 1)) (hp : pc + 1 = q) (k : A cells slots q ls (.int (x + y) :: st) n R I L) : A cells slots pc ls (.int y :: .int x :: st) n R I L := by
  obtain ⟨p, l, e, s, m, args, below, meth, c, D, Q, hx, hb, hml, hown, hts, hK, hz, hnm, rfl⟩ := G
  subst hp
  intro H locs arr hR hS hl
  exact lv_iadd hx hb hd (k H locs arr hR hS hl)
theorem bq_isub (G : bq_Cx cc own nL z Rm nm A) {x y : Int32} (hd : decode cc pc = .ok (.isub, 1)) (hp : pc + 1 = q) (k : A cells slots q ls (.int (x - y) :: st) n R I L) : A cells slots pc ls (.int y :: .int x :: st) n R I L := by
  obtain ⟨p, l, e, s, m, args, below, meth, c, D, Q, hx, hb, hml, hown, hts, hK, hz, hnm, rfl⟩ := G
  subst hp
  intro H locs arr hR hS hl
  exact lv_isub hx hb hd (k H locs arr hR hS hl)
theorem bq_imul (G : bq_Cx cc own nL z Rm nm A) {x y : Int32} (hd : decode cc pc = .ok (.imul, 1)) (hp : pc + 1 = q) (k : A cells slots q ls (.int (x * y) :: st) n R I L) : A cells slots pc ls (.int y :: .int x :: st) n R I L := by
  obtain ⟨p, l, e, s, m, args, below, meth, c, D, Q, hx, hb, hml, hown, hts, hK, hz, hnm, rfl⟩ := G
  subst hp
  intro H locs arr hR hS hl
  exact lv_imul hx hb hd (k H locs arr hR hS hl)
theorem bq_iand (G : bq_Cx cc own nL z Rm nm A) {x y : Int32} (hd : decode cc pc = .ok (.iand, 1)) (hp : pc + 1 = q) (k : A cells slots q ls (.int (x &&& y) :: st) n R I L) : A cells slots pc ls (.int y :: .int x :: st) n R I L := by
  obtain ⟨p, l, e, s, m, args, below, meth, c, D, Q, hx, hb, hml, hown, hts, hK, hz, hnm, rfl⟩ := G
  subst hp
  intro H locs arr hR hS hl
  exact lv_iand hx hb hd (k H locs arr hR hS hl)
theorem bq_ior (G : bq_Cx cc own nL z Rm nm A) {x y : Int32} (hd : decode cc pc = .ok (.ior, 1)) (hp : pc + 1 = q) (k : A cells slots q ls (.int (x ||| y) :: st) n R I L) : A cells slots pc ls (.int y :: .int x :: st) n R I L := by
  obtain ⟨p, l, e, s, m, args, below, meth, c, D, Q, hx, hb, hml, hown, hts, hK, hz, hnm, rfl⟩ := G
  subst hp
  intro H locs arr hR hS hl
  exact lv_ior hx hb hd (k H locs arr hR hS hl)
theorem bq_ixor (G : bq_Cx cc own nL z Rm nm A) {x y : Int32} (hd : decode cc pc = .ok (.ixor, 1)) (hp : pc + 1 = q) (k : A cells slots q ls (.int (x ^^^ y) :: st) n R I L) : A cells slots pc ls (.int y :: .int x :: st) n R I L := by
  obtain ⟨p, l, e, s, m, args, below, meth, c, D, Q, hx, hb, hml, hown, hts, hK, hz, hnm, rfl⟩ := G
  subst hp
  intro H locs arr hR hS hl
  exact lv_ixor hx hb hd (k H locs arr hR hS hl)
theorem bq_ishl (G : bq_Cx cc own nL z Rm nm A) {x y : Int32} (hd : decode cc pc = .ok (.ishl, 1)) (hp : pc + 1 = q) (k : A cells slots q ls (.int (x <<< (y &&& 31)) :: st) n R I L) : A cells slots pc ls (.int y :: .int x :: st) n R I L := by
  obtain ⟨p, l, e, s, m, args, below, meth, c, D, Q, hx, hb, hml, hown, hts, hK, hz, hnm, rfl⟩ := G
  subst hp
  intro H locs arr hR hS hl
  exact lv_ishl hx hb hd (k H locs arr hR hS hl)
theorem bq_ishr (G : bq_Cx cc own nL z Rm nm A) {x y : Int32} (hd : decode cc pc = .ok (.ishr, 1)) (hp : pc + 1 = q) (k : A cells slots q ls (.int (x >>> (y &&& 31)) :: st) n R I L) : A cells slots pc ls (.int y :: .int x :: st) n R I L := by
  obtain ⟨p, l, e, s, m, args, below, meth, c, D, Q, hx, hb, hml, hown, hts, hK, hz, hnm, rfl⟩ := G
  subst hp
  intro H locs arr hR hS hl
  exact lv_ishr hx hb hd (k H locs arr hR hS hl)
theorem bq_iushr (G : bq_Cx cc own nL z Rm nm A) {x y : Int32} (hd : decode cc pc = .ok (.iushr, 1)) (hp : pc + 1 = q) (k : A cells slots q ls (.int ((x.toUInt32 >>> (y.toUInt32 &&& Int32.toUInt32 31)).toInt32) :: st) n R I L) : A cells slots pc ls (.int y :: .int x :: st) n R I L := by
  obtain ⟨p, l, e, s, m, args, below, meth, c, D, Q, hx, hb, hml, hown, hts, hK, hz, hnm, rfl⟩ := G
  subst hp
  intro H locs arr hR hS hl
  exact lv_iushr hx hb hd rfl (k H locs arr hR hS hl)
theorem bq_idiv (G : bq_Cx cc own nL z Rm nm A) {x y : Int32} (hne : ¬ y = 0) (hd : decode cc pc = .ok (.idiv, 1)) (hp : pc + 1 = q) (k : A cells slots q ls (.int (x / y) :: st) n R I L) : A cells slots pc ls (.int y :: .int x :: st) n R I L := by
  obtain ⟨p, l, e, s, m, args, below, meth, c, D, Q, hx, hb, hml, hown, hts, hK, hz, hnm, rfl⟩ := G
  subst hp
  intro H locs arr hR hS hl
  exact lv_idiv hx hb hd hne (k H locs arr hR hS hl)
theorem bq_irem (G : bq_Cx cc own nL z Rm nm A) {x y : Int32} (hne : ¬ y = 0) (hd : decode cc pc = .ok (.irem, 1)) (hp : pc + 1 = q) (k : A cells slots q ls (.int (x - x / y * y) :: st) n R I L) : A cells slots pc ls (.int y :: .int x :: st) n R I L := by
  obtain ⟨p, l, e, s, m, args, below, meth, c, D, Q, hx, hb, hml, hown, hts, hK, hz, hnm, rfl⟩ := G
  subst hp
  intro H locs arr hR hS hl
  exact lv_irem hx hb hd hne (k H locs arr hR hS hl)
theorem bq_ldiv (G : bq_Cx cc own nL z Rm nm A) {x y : Int64} (hne : ¬ y = 0) (hd : decode cc pc = .ok (.ldiv, 1)) (hp : pc + 1 = q) (k : A cells slots q ls (.long (x / y) :: st) n R I L) : A cells slots pc ls (.long y :: .long x :: st) n R I L := by
  obtain ⟨p, l, e, s, m, args, below, meth, c, D, Q, hx, hb, hml, hown, hts, hK, hz, hnm, rfl⟩ := G
  subst hp
  intro H locs arr hR hS hl
  exact lv_ldiv hx hb hd hne (k H locs arr hR hS hl)
theorem bq_lrem (G : bq_Cx cc own nL z Rm nm A) {x y : Int64} (hne : ¬ y = 0) (hd : decode cc pc = .ok (.lrem, 1)) (hp : pc + 1 = q) (k : A cells slots q ls (.long (x - x / y * y) :: st) n R I L) : A cells slots pc ls (.long y :: .long x :: st) n R I L := by
  obtain ⟨p, l, e, s, m, args, below, meth, c, D, Q, hx, hb, hml, hown, hts, hK, hz, hnm, rfl⟩ := G
  subst hp
  intro H locs arr hR hS hl
  exact lv_lrem hx hb hd hne (k H locs arr hR hS hl)
theorem bq_ladd (G : bq_Cx cc own nL z Rm nm A) {x y : Int64} (hd : decode cc pc = .ok (.ladd, 1)) (hp : pc + 1 = q) (k : A cells slots q ls (.long (x + y) :: st) n R I L) : A cells slots pc ls (.long y :: .long x :: st) n R I L := by
  obtain ⟨p, l, e, s, m, args, below, meth, c, D, Q, hx, hb, hml, hown, hts, hK, hz, hnm, rfl⟩ := G
  subst hp
  intro H locs arr hR hS hl
  exact lv_ladd hx hb hd (k H locs arr hR hS hl)
theorem bq_lsub (G : bq_Cx cc own nL z Rm nm A) {x y : Int64} (hd : decode cc pc = .ok (.lsub, 1)) (hp : pc + 1 = q) (k : A cells slots q ls (.long (x - y) :: st) n R I L) : A cells slots pc ls (.long y :: .long x :: st) n R I L := by
  obtain ⟨p, l, e, s, m, args, below, meth, c, D, Q, hx, hb, hml, hown, hts, hK, hz, hnm, rfl⟩ := G
  subst hp
  intro H locs arr hR hS hl
  exact lv_lsub hx hb hd (k H locs arr hR hS hl)
theorem bq_lmul (G : bq_Cx cc own nL z Rm nm A) {x y : Int64} (hd : decode cc pc = .ok (.lmul, 1)) (hp : pc + 1 = q) (k : A cells slots q ls (.long (x * y) :: st) n R I L) : A cells slots pc ls (.long y :: .long x :: st) n R I L := by
  obtain ⟨p, l, e, s, m, args, below, meth, c, D, Q, hx, hb, hml, hown, hts, hK, hz, hnm, rfl⟩ := G
  subst hp
  intro H locs arr hR hS hl
  exact lv_lmul hx hb hd (k H locs arr hR hS hl)
theorem bq_lcmp (G : bq_Cx cc own nL z Rm nm A) {x y : Int64} (hd : decode cc pc = .ok (.lcmp, 1)) (hp : pc + 1 = q) (k : A cells slots q ls (.int (lg_cmp x y) :: st) n R I L) : A cells slots pc ls (.long y :: .long x :: st) n R I L := by
  obtain ⟨p, l, e, s, m, args, below, meth, c, D, Q, hx, hb, hml, hown, hts, hK, hz, hnm, rfl⟩ := G
  subst hp
  intro H locs arr hR hS hl
  exact W.lcmp hx hb hd (k H locs arr hR hS hl)
theorem bq_ineg (G : bq_Cx cc own nL z Rm nm A) {x : Int32} (hd : decode cc pc = .ok (.ineg, 1)) (hp : pc + 1 = q) (k : A cells slots q ls (.int (-x) :: st) n R I L) : A cells slots pc ls (.int x :: st) n R I L := by
  obtain ⟨p, l, e, s, m, args, below, meth, c, D, Q, hx, hb, hml, hown, hts, hK, hz, hnm, rfl⟩ := G
  subst hp
  intro H locs arr hR hS hl
  exact lv_ineg hx hb hd (k H locs arr hR hS hl)
theorem bq_lneg (G : bq_Cx cc own nL z Rm nm A) {x : Int64} (hd : decode cc pc = .ok (.lneg, 1)) (hp : pc + 1 = q) (k : A cells slots q ls (.long (-x) :: st) n R I L) : A cells slots pc ls (.long x :: st) n R I L := by
  obtain ⟨p, l, e, s, m, args, below, meth, c, D, Q, hx, hb, hml, hown, hts, hK, hz, hnm, rfl⟩ := G
  subst hp
  intro H locs arr hR hS hl
  exact lv_lneg hx hb hd (k H locs arr hR hS hl)
theorem bq_i2l (G : bq_Cx cc own nL z Rm nm A) {x : Int32} (hd : decode cc pc = .ok (.i2l, 1)) (hp : pc + 1 = q) (k : A cells slots q ls (.long x.toInt64 :: st) n R I L) : A cells slots pc ls (.int x :: st) n R I L := by
  obtain ⟨p, l, e, s, m, args, below, meth, c, D, Q, hx, hb, hml, hown, hts, hK, hz, hnm, rfl⟩ := G
  subst hp
  intro H locs arr hR hS hl
  exact lv_i2l hx hb hd rfl (k H locs arr hR hS hl)
theorem bq_l2i (G : bq_Cx cc own nL z Rm nm A) {x : Int64} (hd : decode cc pc = .ok (.l2i, 1)) (hp : pc + 1 = q) (k : A cells slots q ls (.int x.toInt32 :: st) n R I L) : A cells slots pc ls (.long x :: st) n R I L := by
  obtain ⟨p, l, e, s, m, args, below, meth, c, D, Q, hx, hb, hml, hown, hts, hK, hz, hnm, rfl⟩ := G
  subst hp
  intro H locs arr hR hS hl
  exact lv_l2i hx hb hd rfl (k H locs arr hR hS hl)
theorem bq_i2c (G : bq_Cx cc own nL z Rm nm A) {x : Int32} (hd : decode cc pc = .ok (.i2c, 1)) (hp : pc + 1 = q) (k : A cells slots q ls (.int (x.toUInt32 % 65536).toInt32 :: st) n R I L) : A cells slots pc ls (.int x :: st) n R I L := by
  obtain ⟨p, l, e, s, m, args, below, meth, c, D, Q, hx, hb, hml, hown, hts, hK, hz, hnm, rfl⟩ := G
  subst hp
  intro H locs arr hR hS hl
  exact lv_i2c hx hb hd rfl (k H locs arr hR hS hl)
theorem bq_iconst (G : bq_Cx cc own nL z Rm nm A) {c : Int} {v : Int32} (hv : Int32.ofInt c = v) (hd : decode cc pc = .ok (.iconst c, 1)) (hp : pc + 1 = q) (k : A cells slots q ls (.int v :: st) n R I L) : A cells slots pc ls (st) n R I L := by
  obtain ⟨p, l, e, s, m, args, below, meth, c, D, Q, hx, hb, hml, hown, hts, hK, hz, hnm, rfl⟩ := G
  subst hp
  intro H locs arr hR hS hl
  exact lv_iconst hx hb hd hv (k H locs arr hR hS hl)
theorem bq_lconst (G : bq_Cx cc own nL z Rm nm A) {c : Fin 2} {v : Int64} (hv : Int64.ofNat (c : Nat) = v) (hd : decode cc pc = .ok (.lconst c, 1)) (hp : pc + 1 = q) (k : A cells slots q ls (.long v :: st) n R I L) : A cells slots pc ls (st) n R I L := by
  obtain ⟨p, l, e, s, m, args, below, meth, c, D, Q, hx, hb, hml, hown, hts, hK, hz, hnm, rfl⟩ := G
  subst hp
  intro H locs arr hR hS hl
  exact lv_lconst hx hb hd hv (k H locs arr hR hS hl)
theorem bq_bipush (G : bq_Cx cc own nL z Rm nm A) {c : Int} {v : Int32} (hv : (Int8.ofInt c).toInt32 = v) (hd : decode cc pc = .ok (.bipush c, 2)) (hp : pc + 2 = q) (k : A cells slots q ls (.int v :: st) n R I L) : A cells slots pc ls (st) n R I L := by
  obtain ⟨p, l, e, s, m, args, below, meth, c, D, Q, hx, hb, hml, hown, hts, hK, hz, hnm, rfl⟩ := G
  subst hp
  intro H locs arr hR hS hl
  exact lv_bipush hx hb hd hv (k H locs arr hR hS hl)
theorem bq_sipush (G : bq_Cx cc own nL z Rm nm A) {c : Int} {v : Int32} (hv : (Int16.ofInt c).toInt32 = v) (hd : decode cc pc = .ok (.sipush c, 3)) (hp : pc + 3 = q) (k : A cells slots q ls (.int v :: st) n R I L) : A cells slots pc ls (st) n R I L := by
  obtain ⟨p, l, e, s, m, args, below, meth, c, D, Q, hx, hb, hml, hown, hts, hK, hz, hnm, rfl⟩ := G
  subst hp
  intro H locs arr hR hS hl
  exact lv_sipush hx hb hd hv (k H locs arr hR hS hl)
theorem bq_ldc (G : bq_Cx cc own nL z Rm nm A) {i : Nat} {v : Int32} (hw : Cond.constant own i v ∈ bq_tbl) (hd : decode cc pc = .ok (.ldc i, 2)) (hp : pc + 2 = q) (k : A cells slots q ls (.int v :: st) n R I L) : A cells slots pc ls (st) n R I L := by
  obtain ⟨p, l, e, s, m, args, below, meth, c, D, Q, hx, hb, hml, hown, hts, hK, hz, hnm, rfl⟩ := G
  subst hp
  intro H locs arr hR hS hl
  exact lv_ldc hx hb hown (hts _ hw) hd (k H locs arr hR hS hl)
theorem bq_ldcw (G : bq_Cx cc own nL z Rm nm A) {i : Nat} {v : Int32} (hw : Cond.constant own i v ∈ bq_tbl) (hd : decode cc pc = .ok (.ldc_w i, 3)) (hp : pc + 3 = q) (k : A cells slots q ls (.int v :: st) n R I L) : A cells slots pc ls (st) n R I L := by
  obtain ⟨p, l, e, s, m, args, below, meth, c, D, Q, hx, hb, hml, hown, hts, hK, hz, hnm, rfl⟩ := G
  subst hp
  intro H locs arr hR hS hl
  exact lv_ldcw hx hb hown (hts _ hw) hd (k H locs arr hR hS hl)
theorem bq_ldc2 (G : bq_Cx cc own nL z Rm nm A) {i : Nat} {v : Int64} (hw : Cond.constantLong own i v ∈ bq_tbl) (hd : decode cc pc = .ok (.ldc2_w i, 3)) (hp : pc + 3 = q) (k : A cells slots q ls (.long v :: st) n R I L) : A cells slots pc ls (st) n R I L := by
  obtain ⟨p, l, e, s, m, args, below, meth, c, D, Q, hx, hb, hml, hown, hts, hK, hz, hnm, rfl⟩ := G
  subst hp
  intro H locs arr hR hS hl
  exact lv_ldc2 hx hb hown (hts _ hw) hd (k H locs arr hR hS hl)
theorem bq_dup (G : bq_Cx cc own nL z Rm nm A) {v : Value} (hv : v.category = 1) (hd : decode cc pc = .ok (.dup, 1)) (hp : pc + 1 = q) (k : A cells slots q ls (v :: v :: st) n R I L) : A cells slots pc ls (v :: st) n R I L := by
  obtain ⟨p, l, e, s, m, args, below, meth, c, D, Q, hx, hb, hml, hown, hts, hK, hz, hnm, rfl⟩ := G
  subst hp
  intro H locs arr hR hS hl
  exact lv_dup hx hb hd hv (k H locs arr hR hS hl)
theorem bq_pop (G : bq_Cx cc own nL z Rm nm A) {v : Value} (hv : v.category = 1) (hd : decode cc pc = .ok (.pop, 1)) (hp : pc + 1 = q) (k : A cells slots q ls (st) n R I L) : A cells slots pc ls (v :: st) n R I L := by
  obtain ⟨p, l, e, s, m, args, below, meth, c, D, Q, hx, hb, hml, hown, hts, hK, hz, hnm, rfl⟩ := G
  subst hp
  intro H locs arr hR hS hl
  exact lv_pop hx hb hd hv (k H locs arr hR hS hl)
theorem bq_dup2 (G : bq_Cx cc own nL z Rm nm A) {v w : Value} (hv : v.category = 1) (hw : w.category = 1) (hd : decode cc pc = .ok (.dup2, 1)) (hp : pc + 1 = q) (k : A cells slots q ls (v :: w :: v :: w :: st) n R I L) : A cells slots pc ls (v :: w :: st) n R I L := by
  obtain ⟨p, l, e, s, m, args, below, meth, c, D, Q, hx, hb, hml, hown, hts, hK, hz, hnm, rfl⟩ := G
  subst hp
  intro H locs arr hR hS hl
  exact lv_dup2_11 hx hb hd hv hw (k H locs arr hR hS hl)
theorem bq_iload_n (G : bq_Cx cc own nL z Rm nm A) {k0 : Fin 4} {x : Int32} (hl0 : bq_at ls (k0 : Nat) = some (.int x)) (hd : decode cc pc = .ok (.iload_n k0, 1)) (hp : pc + 1 = q) (k : A cells slots q ls (.int x :: st) n R I L) : A cells slots pc ls (st) n R I L := by
  obtain ⟨p, l, e, s, m, args, below, meth, c, D, Q, hx, hb, hml, hown, hts, hK, hz, hnm, rfl⟩ := G
  subst hp
  intro H locs arr hR hS hl
  exact lv_iload_n hx hb hd rfl (hl.at hl0) (k H locs arr hR hS hl)
theorem bq_iload (G : bq_Cx cc own nL z Rm nm A) {k0 : Nat} {x : Int32} (hl0 : bq_at ls k0 = some (.int x)) (hd : decode cc pc = .ok (.iload k0, 2)) (hp : pc + 2 = q) (k : A cells slots q ls (.int x :: st) n R I L) : A cells slots pc ls (st) n R I L := by
  obtain ⟨p, l, e, s, m, args, below, meth, c, D, Q, hx, hb, hml, hown, hts, hK, hz, hnm, rfl⟩ := G
  subst hp
  intro H locs arr hR hS hl
  exact lv_iload hx hb hd (hl.at hl0) (k H locs arr hR hS hl)
theorem bq_lload_n (G : bq_Cx cc own nL z Rm nm A) {k0 : Fin 4} {x : Int64} (hl0 : bq_at ls (k0 : Nat) = some (.long x)) (hd : decode cc pc = .ok (.lload_n k0, 1)) (hp : pc + 1 = q) (k : A cells slots q ls (.long x :: st) n R I L) : A cells slots pc ls (st) n R I L := by
  obtain ⟨p, l, e, s, m, args, below, meth, c, D, Q, hx, hb, hml, hown, hts, hK, hz, hnm, rfl⟩ := G
  subst hp
  intro H locs arr hR hS hl
  exact lv_lload_n hx hb hd rfl (hl.at hl0) (k H locs arr hR hS hl)
theorem bq_lload (G : bq_Cx cc own nL z Rm nm A) {k0 : Nat} {x : Int64} (hl0 : bq_at ls k0 = some (.long x)) (hd : decode cc pc = .ok (.lload k0, 2)) (hp : pc + 2 = q) (k : A cells slots q ls (.long x :: st) n R I L) : A cells slots pc ls (st) n R I L := by
  obtain ⟨p, l, e, s, m, args, below, meth, c, D, Q, hx, hb, hml, hown, hts, hK, hz, hnm, rfl⟩ := G
  subst hp
  intro H locs arr hR hS hl
  exact lv_lload hx hb hd (hl.at hl0) (k H locs arr hR hS hl)
theorem bq_aload_n (G : bq_Cx cc own nL z Rm nm A) {k0 : Fin 4} {x : Nat} (hl0 : bq_at ls (k0 : Nat) = some (.ref x)) (hd : decode cc pc = .ok (.aload_n k0, 1)) (hp : pc + 1 = q) (k : A cells slots q ls (.ref x :: st) n R I L) : A cells slots pc ls (st) n R I L := by
  obtain ⟨p, l, e, s, m, args, below, meth, c, D, Q, hx, hb, hml, hown, hts, hK, hz, hnm, rfl⟩ := G
  subst hp
  intro H locs arr hR hS hl
  exact lv_aload_n hx hb hd rfl (hl.at hl0) (k H locs arr hR hS hl)
theorem bq_aload (G : bq_Cx cc own nL z Rm nm A) {k0 : Nat} {x : Nat} (hl0 : bq_at ls k0 = some (.ref x)) (hd : decode cc pc = .ok (.aload k0, 2)) (hp : pc + 2 = q) (k : A cells slots q ls (.ref x :: st) n R I L) : A cells slots pc ls (st) n R I L := by
  obtain ⟨p, l, e, s, m, args, below, meth, c, D, Q, hx, hb, hml, hown, hts, hK, hz, hnm, rfl⟩ := G
  subst hp
  intro H locs arr hR hS hl
  exact lv_aload hx hb hd (hl.at hl0) (k H locs arr hR hS hl)
theorem bq_goto (G : bq_Cx cc own nL z Rm nm A) {off : Int} (hd : decode cc pc = .ok (.goto off, 3)) (hp : (pc : Int) + off = (q : Int)) (k : A cells slots q ls st n R I L) : A cells slots pc ls st n R I L := by
  obtain ⟨p, l, e, s, m, args, below, meth, c, D, Q, hx, hb, hml, hown, hts, hK, hz, hnm, rfl⟩ := G
  intro H locs arr hR hS hl
  exact lv_goto hx hb hd hp (k H locs arr hR hS hl)
theorem bq_top {v w : Value} (e : v = w) (k : A cells slots pc ls (w :: st) n R I L) : A cells slots pc ls (v :: st) n R I L := e ▸ k
theorem bq_I {I' : bq_IR} (e : I = I') (k : A cells slots pc ls st n R I' L) : A cells slots pc ls st n R I L := e ▸ k
theorem bq_L {L' : bq_LR} (e : L = L') (k : A cells slots pc ls st n R I L') : A cells slots pc ls st n R I L := e ▸ k
theorem bq_ls {ls' : bq_LS} (e : ls = ls') (k : A cells slots pc ls' st n R I L) : A cells slots pc ls st n R I L := e ▸ k
theorem bq_IL {I' : bq_IR} {L' : bq_LR} (e : I = I') (e2 : L = L') (k : A cells slots pc ls st n R I' L') : A cells slots pc ls st n R I L := e ▸ e2 ▸ k
theorem bq_name {v : Int32} (k : ∀ x : Int32, x = v → A cells slots pc ls (.int x :: st) n R I L) : A cells slots pc ls (.int v :: st) n R I L := k v rfl
theorem bq_nameL {v : Int64} (k : ∀ x : Int64, x = v → A cells slots pc ls (.long x :: st) n R I L) : A cells slots pc ls (.long v :: st) n R I L := k v rfl
theorem bq_nameI {P : bq_IR → Prop} (hI : P I) (k : ∀ J : bq_IR, P J → A cells slots pc ls st n R J L) : A cells slots pc ls st n R I L := k I hI
def bq_le : bq_LS → bq_LS → Prop
  | [], _ => True
  | none :: l', [] => bq_le l' []
  | some _ :: _, [] => False
  | none :: l', _ :: l => bq_le l' l
  | some v :: l', a :: l => a = some v ∧ bq_le l' l
theorem bq_le_at : ∀ (l' l : bq_LS), bq_le l' l → ∀ (k : Nat) (v : Value), bq_at l' k = some v → bq_at l k = some v
  | [], _, _, k, v, h => by simp [bq_at] at h
  | none :: l', [], hle, 0, v, h => by simp [bq_at] at h
  | none :: l', [], hle, k + 1, v, h => by
    have h1 := bq_le_at l' [] hle k v h
    simp [bq_at] at h1
  | some _ :: _, [], hle, k, v, h => hle.elim
  | none :: l', a :: l, hle, 0, v, h => by simp [bq_at] at h
  | none :: l', a :: l, hle, k + 1, v, h => bq_le_at l' l hle k v h
  | some w :: l', a :: l, hle, 0, v, h => hle.1.trans h
  | some w :: l', a :: l, hle, k + 1, v, h => bq_le_at l' l hle.2 k v h
theorem bq_forget (G : bq_Cx cc own nL z Rm nm A) {ls' : bq_LS} (h : bq_le ls' ls) (k : A cells slots pc ls' st n R I L) : A cells slots pc ls st n R I L := by
  obtain ⟨p, l, e, s, m, args, below, meth, c, D, Q, hx, hb, hml, hown, hts, hK, hz, hnm, rfl⟩ := G
  intro H locs arr hR hS hl
  exact k H locs arr hR hS (hl.le (bq_le_at _ _ h))
theorem bq_if_eq (G : bq_Cx cc own nL z Rm nm A) {x : Int32} {off : Int} {t : Nat} (hd : decode cc pc = .ok (.ifCond .eq off, 3)) (ht : (pc : Int) + off = (t : Int)) (hp : pc + 3 = q) (kt : x = 0 → A cells slots t ls st n R I L) (kf : ¬ x = 0 → A cells slots q ls st n R I L) : A cells slots pc ls (.int x :: st) n R I L := by
  obtain ⟨p, l, e, s, m, args, below, meth, c, D, Q, hx, hb, hml, hown, hts, hK, hz, hnm, rfl⟩ := G
  subst hp
  intro H locs arr hR hS hl
  exact lv_if_eq hx hb hd ht (fun h => kt h H locs arr hR hS hl) (fun h => kf h H locs arr hR hS hl)
theorem bq_if_eq_t (G : bq_Cx cc own nL z Rm nm A) {x : Int32} {off : Int} {t : Nat} (hd : decode cc pc = .ok (.ifCond .eq off, 3)) (ht : (pc : Int) + off = (t : Int)) (h : x = 0) (k : A cells slots t ls st n R I L) : A cells slots pc ls (.int x :: st) n R I L := bq_if_eq G hd ht rfl (fun _ => k) (fun h' => absurd h h')
theorem bq_if_eq_f (G : bq_Cx cc own nL z Rm nm A) {x : Int32} {off : Int} (hd : decode cc pc = .ok (.ifCond .eq off, 3)) (hp : pc + 3 = q) {t : Nat} (ht : (pc : Int) + off = (t : Int)) (h : ¬ x = 0) (k : A cells slots q ls st n R I L) : A cells slots pc ls (.int x :: st) n R I L := bq_if_eq G hd ht hp (fun h' => absurd h' h) (fun _ => k)
theorem bq_icmp_eq (G : bq_Cx cc own nL z Rm nm A) {x y : Int32} {off : Int} {t : Nat} (hd : decode cc pc = .ok (.if_icmp .eq off, 3)) (ht : (pc : Int) + off = (t : Int)) (hp : pc + 3 = q) (kt : x = y → A cells slots t ls st n R I L) (kf : ¬ x = y → A cells slots q ls st n R I L) : A cells slots pc ls (.int y :: .int x :: st) n R I L := by
  obtain ⟨p, l, e, s, m, args, below, meth, c, D, Q, hx, hb, hml, hown, hts, hK, hz, hnm, rfl⟩ := G
  subst hp
  intro H locs arr hR hS hl
  exact lv_icmp_eq hx hb hd ht (fun h => kt h H locs arr hR hS hl) (fun h => kf h H locs arr hR hS hl)
theorem bq_icmp_eq_t (G : bq_Cx cc own nL z Rm nm A) {x y : Int32} {off : Int} {t : Nat} (hd : decode cc pc = .ok (.if_icmp .eq off, 3)) (ht : (pc : Int) + off = (t : Int)) (h : x = y) (k : A cells slots t ls st n R I L) : A cells slots pc ls (.int y :: .int x :: st) n R I L := bq_icmp_eq G hd ht rfl (fun _ => k) (fun h' => absurd h h')
theorem bq_icmp_eq_f (G : bq_Cx cc own nL z Rm nm A) {x y : Int32} {off : Int} (hd : decode cc pc = .ok (.if_icmp .eq off, 3)) (hp : pc + 3 = q) {t : Nat} (ht : (pc : Int) + off = (t : Int)) (h : ¬ x = y) (k : A cells slots q ls st n R I L) : A cells slots pc ls (.int y :: .int x :: st) n R I L := bq_icmp_eq G hd ht hp (fun h' => absurd h' h) (fun _ => k)
theorem bq_if_ne (G : bq_Cx cc own nL z Rm nm A) {x : Int32} {off : Int} {t : Nat} (hd : decode cc pc = .ok (.ifCond .ne off, 3)) (ht : (pc : Int) + off = (t : Int)) (hp : pc + 3 = q) (kt : ¬ x = 0 → A cells slots t ls st n R I L) (kf : x = 0 → A cells slots q ls st n R I L) : A cells slots pc ls (.int x :: st) n R I L := by
  obtain ⟨p, l, e, s, m, args, below, meth, c, D, Q, hx, hb, hml, hown, hts, hK, hz, hnm, rfl⟩ := G
  subst hp
  intro H locs arr hR hS hl
  exact lv_if_ne hx hb hd ht (fun h => kt h H locs arr hR hS hl) (fun h => kf h H locs arr hR hS hl)
theorem bq_if_ne_t (G : bq_Cx cc own nL z Rm nm A) {x : Int32} {off : Int} {t : Nat} (hd : decode cc pc = .ok (.ifCond .ne off, 3)) (ht : (pc : Int) + off = (t : Int)) (h : ¬ x = 0) (k : A cells slots t ls st n R I L) : A cells slots pc ls (.int x :: st) n R I L := bq_if_ne G hd ht rfl (fun _ => k) (fun h' => absurd h' h)
theorem bq_if_ne_f (G : bq_Cx cc own nL z Rm nm A) {x : Int32} {off : Int} (hd : decode cc pc = .ok (.ifCond .ne off, 3)) (hp : pc + 3 = q) {t : Nat} (ht : (pc : Int) + off = (t : Int)) (h : x = 0) (k : A cells slots q ls st n R I L) : A cells slots pc ls (.int x :: st) n R I L := bq_if_ne G hd ht hp (fun h' => absurd h h') (fun _ => k)
theorem bq_icmp_ne (G : bq_Cx cc own nL z Rm nm A) {x y : Int32} {off : Int} {t : Nat} (hd : decode cc pc = .ok (.if_icmp .ne off, 3)) (ht : (pc : Int) + off = (t : Int)) (hp : pc + 3 = q) (kt : ¬ x = y → A cells slots t ls st n R I L) (kf : x = y → A cells slots q ls st n R I L) : A cells slots pc ls (.int y :: .int x :: st) n R I L := by
  obtain ⟨p, l, e, s, m, args, below, meth, c, D, Q, hx, hb, hml, hown, hts, hK, hz, hnm, rfl⟩ := G
  subst hp
  intro H locs arr hR hS hl
  exact lv_icmp_ne hx hb hd ht (fun h => kt h H locs arr hR hS hl) (fun h => kf h H locs arr hR hS hl)
theorem bq_icmp_ne_t (G : bq_Cx cc own nL z Rm nm A) {x y : Int32} {off : Int} {t : Nat} (hd : decode cc pc = .ok (.if_icmp .ne off, 3)) (ht : (pc : Int) + off = (t : Int)) (h : ¬ x = y) (k : A cells slots t ls st n R I L) : A cells slots pc ls (.int y :: .int x :: st) n R I L := bq_icmp_ne G hd ht rfl (fun _ => k) (fun h' => absurd h' h)
theorem bq_icmp_ne_f (G : bq_Cx cc own nL z Rm nm A) {x y : Int32} {off : Int} (hd : decode cc pc = .ok (.if_icmp .ne off, 3)) (hp : pc + 3 = q) {t : Nat} (ht : (pc : Int) + off = (t : Int)) (h : x = y) (k : A cells slots q ls st n R I L) : A cells slots pc ls (.int y :: .int x :: st) n R I L := bq_icmp_ne G hd ht hp (fun h' => absurd h h') (fun _ => k)
theorem bq_if_lt (G : bq_Cx cc own nL z Rm nm A) {x : Int32} {off : Int} {t : Nat} (hd : decode cc pc = .ok (.ifCond .lt off, 3)) (ht : (pc : Int) + off = (t : Int)) (hp : pc + 3 = q) (kt : x < 0 → A cells slots t ls st n R I L) (kf : ¬ x < 0 → A cells slots q ls st n R I L) : A cells slots pc ls (.int x :: st) n R I L := by
  obtain ⟨p, l, e, s, m, args, below, meth, c, D, Q, hx, hb, hml, hown, hts, hK, hz, hnm, rfl⟩ := G
  subst hp
  intro H locs arr hR hS hl
  exact lv_if_lt hx hb hd ht (fun h => kt h H locs arr hR hS hl) (fun h => kf h H locs arr hR hS hl)
theorem bq_if_lt_t (G : bq_Cx cc own nL z Rm nm A) {x : Int32} {off : Int} {t : Nat} (hd : decode cc pc = .ok (.ifCond .lt off, 3)) (ht : (pc : Int) + off = (t : Int)) (h : x < 0) (k : A cells slots t ls st n R I L) : A cells slots pc ls (.int x :: st) n R I L := bq_if_lt G hd ht rfl (fun _ => k) (fun h' => absurd h h')
theorem bq_if_lt_f (G : bq_Cx cc own nL z Rm nm A) {x : Int32} {off : Int} (hd : decode cc pc = .ok (.ifCond .lt off, 3)) (hp : pc + 3 = q) {t : Nat} (ht : (pc : Int) + off = (t : Int)) (h : ¬ x < 0) (k : A cells slots q ls st n R I L) : A cells slots pc ls (.int x :: st) n R I L := bq_if_lt G hd ht hp (fun h' => absurd h' h) (fun _ => k)
theorem bq_icmp_lt (G : bq_Cx cc own nL z Rm nm A) {x y : Int32} {off : Int} {t : Nat} (hd : decode cc pc = .ok (.if_icmp .lt off, 3)) (ht : (pc : Int) + off = (t : Int)) (hp : pc + 3 = q) (kt : x < y → A cells slots t ls st n R I L) (kf : ¬ x < y → A cells slots q ls st n R I L) : A cells slots pc ls (.int y :: .int x :: st) n R I L := by
  obtain ⟨p, l, e, s, m, args, below, meth, c, D, Q, hx, hb, hml, hown, hts, hK, hz, hnm, rfl⟩ := G
  subst hp
  intro H locs arr hR hS hl
  exact lv_icmp_lt hx hb hd ht (fun h => kt h H locs arr hR hS hl) (fun h => kf h H locs arr hR hS hl)
theorem bq_icmp_lt_t (G : bq_Cx cc own nL z Rm nm A) {x y : Int32} {off : Int} {t : Nat} (hd : decode cc pc = .ok (.if_icmp .lt off, 3)) (ht : (pc : Int) + off = (t : Int)) (h : x < y) (k : A cells slots t ls st n R I L) : A cells slots pc ls (.int y :: .int x :: st) n R I L := bq_icmp_lt G hd ht rfl (fun _ => k) (fun h' => absurd h h')
theorem bq_icmp_lt_f (G : bq_Cx cc own nL z Rm nm A) {x y : Int32} {off : Int} (hd : decode cc pc = .ok (.if_icmp .lt off, 3)) (hp : pc + 3 = q) {t : Nat} (ht : (pc : Int) + off = (t : Int)) (h : ¬ x < y) (k : A cells slots q ls st n R I L) : A cells slots pc ls (.int y :: .int x :: st) n R I L := bq_icmp_lt G hd ht hp (fun h' => absurd h' h) (fun _ => k)
theorem bq_if_ge (G : bq_Cx cc own nL z Rm nm A) {x : Int32} {off : Int} {t : Nat} (hd : decode cc pc = .ok (.ifCond .ge off, 3)) (ht : (pc : Int) + off = (t : Int)) (hp : pc + 3 = q) (kt : 0 ≤ x → A cells slots t ls st n R I L) (kf : ¬ 0 ≤ x → A cells slots q ls st n R I L) : A cells slots pc ls (.int x :: st) n R I L := by
  obtain ⟨p, l, e, s, m, args, below, meth, c, D, Q, hx, hb, hml, hown, hts, hK, hz, hnm, rfl⟩ := G
  subst hp
  intro H locs arr hR hS hl
  exact lv_if_ge hx hb hd ht (fun h => kt h H locs arr hR hS hl) (fun h => kf h H locs arr hR hS hl)
theorem bq_if_ge_t (G : bq_Cx cc own nL z Rm nm A) {x : Int32} {off : Int} {t : Nat} (hd : decode cc pc = .ok (.ifCond .ge off, 3)) (ht : (pc : Int) + off = (t : Int)) (h : 0 ≤ x) (k : A cells slots t ls st n R I L) : A cells slots pc ls (.int x :: st) n R I L := bq_if_ge G hd ht rfl (fun _ => k) (fun h' => absurd h h')
theorem bq_if_ge_f (G : bq_Cx cc own nL z Rm nm A) {x : Int32} {off : Int} (hd : decode cc pc = .ok (.ifCond .ge off, 3)) (hp : pc + 3 = q) {t : Nat} (ht : (pc : Int) + off = (t : Int)) (h : ¬ 0 ≤ x) (k : A cells slots q ls st n R I L) : A cells slots pc ls (.int x :: st) n R I L := bq_if_ge G hd ht hp (fun h' => absurd h' h) (fun _ => k)
theorem bq_icmp_ge (G : bq_Cx cc own nL z Rm nm A) {x y : Int32} {off : Int} {t : Nat} (hd : decode cc pc = .ok (.if_icmp .ge off, 3)) (ht : (pc : Int) + off = (t : Int)) (hp : pc + 3 = q) (kt : y ≤ x → A cells slots t ls st n R I L) (kf : ¬ y ≤ x → A cells slots q ls st n R I L) : A cells slots pc ls (.int y :: .int x :: st) n R I L := by
  obtain ⟨p, l, e, s, m, args, below, meth, c, D, Q, hx, hb, hml, hown, hts, hK, hz, hnm, rfl⟩ := G
  subst hp
  intro H locs arr hR hS hl
  exact lv_icmp_ge hx hb hd ht (fun h => kt h H locs arr hR hS hl) (fun h => kf h H locs arr hR hS hl)
theorem bq_icmp_ge_t (G : bq_Cx cc own nL z Rm nm A) {x y : Int32} {off : Int} {t : Nat} (hd : decode cc pc = .ok (.if_icmp .ge off, 3)) (ht : (pc : Int) + off = (t : Int)) (h : y ≤ x) (k : A cells slots t ls st n R I L) : A cells slots pc ls (.int y :: .int x :: st) n R I L := bq_icmp_ge G hd ht rfl (fun _ => k) (fun h' => absurd h h')
theorem bq_icmp_ge_f (G : bq_Cx cc own nL z Rm nm A) {x y : Int32} {off : Int} (hd : decode cc pc = .ok (.if_icmp .ge off, 3)) (hp : pc + 3 = q) {t : Nat} (ht : (pc : Int) + off = (t : Int)) (h : ¬ y ≤ x) (k : A cells slots q ls st n R I L) : A cells slots pc ls (.int y :: .int x :: st) n R I L := bq_icmp_ge G hd ht hp (fun h' => absurd h' h) (fun _ => k)
theorem bq_if_gt (G : bq_Cx cc own nL z Rm nm A) {x : Int32} {off : Int} {t : Nat} (hd : decode cc pc = .ok (.ifCond .gt off, 3)) (ht : (pc : Int) + off = (t : Int)) (hp : pc + 3 = q) (kt : 0 < x → A cells slots t ls st n R I L) (kf : ¬ 0 < x → A cells slots q ls st n R I L) : A cells slots pc ls (.int x :: st) n R I L := by
  obtain ⟨p, l, e, s, m, args, below, meth, c, D, Q, hx, hb, hml, hown, hts, hK, hz, hnm, rfl⟩ := G
  subst hp
  intro H locs arr hR hS hl
  exact lv_if_gt hx hb hd ht (fun h => kt h H locs arr hR hS hl) (fun h => kf h H locs arr hR hS hl)
theorem bq_if_gt_t (G : bq_Cx cc own nL z Rm nm A) {x : Int32} {off : Int} {t : Nat} (hd : decode cc pc = .ok (.ifCond .gt off, 3)) (ht : (pc : Int) + off = (t : Int)) (h : 0 < x) (k : A cells slots t ls st n R I L) : A cells slots pc ls (.int x :: st) n R I L := bq_if_gt G hd ht rfl (fun _ => k) (fun h' => absurd h h')
theorem bq_if_gt_f (G : bq_Cx cc own nL z Rm nm A) {x : Int32} {off : Int} (hd : decode cc pc = .ok (.ifCond .gt off, 3)) (hp : pc + 3 = q) {t : Nat} (ht : (pc : Int) + off = (t : Int)) (h : ¬ 0 < x) (k : A cells slots q ls st n R I L) : A cells slots pc ls (.int x :: st) n R I L := bq_if_gt G hd ht hp (fun h' => absurd h' h) (fun _ => k)
theorem bq_icmp_gt (G : bq_Cx cc own nL z Rm nm A) {x y : Int32} {off : Int} {t : Nat} (hd : decode cc pc = .ok (.if_icmp .gt off, 3)) (ht : (pc : Int) + off = (t : Int)) (hp : pc + 3 = q) (kt : y < x → A cells slots t ls st n R I L) (kf : ¬ y < x → A cells slots q ls st n R I L) : A cells slots pc ls (.int y :: .int x :: st) n R I L := by
  obtain ⟨p, l, e, s, m, args, below, meth, c, D, Q, hx, hb, hml, hown, hts, hK, hz, hnm, rfl⟩ := G
  subst hp
  intro H locs arr hR hS hl
  exact lv_icmp_gt hx hb hd ht (fun h => kt h H locs arr hR hS hl) (fun h => kf h H locs arr hR hS hl)
theorem bq_icmp_gt_t (G : bq_Cx cc own nL z Rm nm A) {x y : Int32} {off : Int} {t : Nat} (hd : decode cc pc = .ok (.if_icmp .gt off, 3)) (ht : (pc : Int) + off = (t : Int)) (h : y < x) (k : A cells slots t ls st n R I L) : A cells slots pc ls (.int y :: .int x :: st) n R I L := bq_icmp_gt G hd ht rfl (fun _ => k) (fun h' => absurd h h')
theorem bq_icmp_gt_f (G : bq_Cx cc own nL z Rm nm A) {x y : Int32} {off : Int} (hd : decode cc pc = .ok (.if_icmp .gt off, 3)) (hp : pc + 3 = q) {t : Nat} (ht : (pc : Int) + off = (t : Int)) (h : ¬ y < x) (k : A cells slots q ls st n R I L) : A cells slots pc ls (.int y :: .int x :: st) n R I L := bq_icmp_gt G hd ht hp (fun h' => absurd h' h) (fun _ => k)
theorem bq_if_le (G : bq_Cx cc own nL z Rm nm A) {x : Int32} {off : Int} {t : Nat} (hd : decode cc pc = .ok (.ifCond .le off, 3)) (ht : (pc : Int) + off = (t : Int)) (hp : pc + 3 = q) (kt : x ≤ 0 → A cells slots t ls st n R I L) (kf : ¬ x ≤ 0 → A cells slots q ls st n R I L) : A cells slots pc ls (.int x :: st) n R I L := by
  obtain ⟨p, l, e, s, m, args, below, meth, c, D, Q, hx, hb, hml, hown, hts, hK, hz, hnm, rfl⟩ := G
  subst hp
  intro H locs arr hR hS hl
  exact lv_if_le hx hb hd ht (fun h => kt h H locs arr hR hS hl) (fun h => kf h H locs arr hR hS hl)
theorem bq_if_le_t (G : bq_Cx cc own nL z Rm nm A) {x : Int32} {off : Int} {t : Nat} (hd : decode cc pc = .ok (.ifCond .le off, 3)) (ht : (pc : Int) + off = (t : Int)) (h : x ≤ 0) (k : A cells slots t ls st n R I L) : A cells slots pc ls (.int x :: st) n R I L := bq_if_le G hd ht rfl (fun _ => k) (fun h' => absurd h h')
theorem bq_if_le_f (G : bq_Cx cc own nL z Rm nm A) {x : Int32} {off : Int} (hd : decode cc pc = .ok (.ifCond .le off, 3)) (hp : pc + 3 = q) {t : Nat} (ht : (pc : Int) + off = (t : Int)) (h : ¬ x ≤ 0) (k : A cells slots q ls st n R I L) : A cells slots pc ls (.int x :: st) n R I L := bq_if_le G hd ht hp (fun h' => absurd h' h) (fun _ => k)
theorem bq_icmp_le (G : bq_Cx cc own nL z Rm nm A) {x y : Int32} {off : Int} {t : Nat} (hd : decode cc pc = .ok (.if_icmp .le off, 3)) (ht : (pc : Int) + off = (t : Int)) (hp : pc + 3 = q) (kt : x ≤ y → A cells slots t ls st n R I L) (kf : ¬ x ≤ y → A cells slots q ls st n R I L) : A cells slots pc ls (.int y :: .int x :: st) n R I L := by
  obtain ⟨p, l, e, s, m, args, below, meth, c, D, Q, hx, hb, hml, hown, hts, hK, hz, hnm, rfl⟩ := G
  subst hp
  intro H locs arr hR hS hl
  exact lv_icmp_le hx hb hd ht (fun h => kt h H locs arr hR hS hl) (fun h => kf h H locs arr hR hS hl)
theorem bq_icmp_le_t (G : bq_Cx cc own nL z Rm nm A) {x y : Int32} {off : Int} {t : Nat} (hd : decode cc pc = .ok (.if_icmp .le off, 3)) (ht : (pc : Int) + off = (t : Int)) (h : x ≤ y) (k : A cells slots t ls st n R I L) : A cells slots pc ls (.int y :: .int x :: st) n R I L := bq_icmp_le G hd ht rfl (fun _ => k) (fun h' => absurd h h')
theorem bq_icmp_le_f (G : bq_Cx cc own nL z Rm nm A) {x y : Int32} {off : Int} (hd : decode cc pc = .ok (.if_icmp .le off, 3)) (hp : pc + 3 = q) {t : Nat} (ht : (pc : Int) + off = (t : Int)) (h : ¬ x ≤ y) (k : A cells slots q ls st n R I L) : A cells slots pc ls (.int y :: .int x :: st) n R I L := bq_icmp_le G hd ht hp (fun h' => absurd h' h) (fun _ => k)
theorem bq_istore_n (G : bq_Cx cc own nL z Rm nm A) {k0 : Fin 4} {x : Int32} {ls' : bq_LS} (hd : decode cc pc = .ok (.istore_n k0, 1)) (hp : pc + 1 = q) (hn : (k0 : Nat) + 0 < nL) (hnl : bq_nl ls (k0 : Nat) = true) (hls : bq_put ls (k0 : Nat) (some (.int x)) = ls') (k : A cells slots q ls' st n R I L) : A cells slots pc ls (.int x :: st) n R I L := by
  obtain ⟨p, l, e, s, m, args, below, meth, c, D, Q, hx, hb, hml, hown, hts, hK, hz, hnm, rfl⟩ := G
  subst hp
  subst hls
  intro H locs arr hR hS hl
  obtain ⟨arr', e', h'⟩ := bq_store1 (v := .int x) hl hn hnl rfl
  refine W.go (fun T hT tg hs => ?_) (k H locs arr' hR hS h')
  jvm_step hT [hT.top, hx, hb, hd, e']
  first | exact hs | exact ⟨_, e', hs⟩ | exact ⟨rfl, _, e', hs⟩
theorem bq_istore (G : bq_Cx cc own nL z Rm nm A) {k0 : Nat} {x : Int32} {ls' : bq_LS} (hd : decode cc pc = .ok (.istore k0, 2)) (hp : pc + 2 = q) (hn : k0 + 0 < nL) (hnl : bq_nl ls k0 = true) (hls : bq_put ls k0 (some (.int x)) = ls') (k : A cells slots q ls' st n R I L) : A cells slots pc ls (.int x :: st) n R I L := by
  obtain ⟨p, l, e, s, m, args, below, meth, c, D, Q, hx, hb, hml, hown, hts, hK, hz, hnm, rfl⟩ := G
  subst hp
  subst hls
  intro H locs arr hR hS hl
  obtain ⟨arr', e', h'⟩ := bq_store1 (v := .int x) hl hn hnl rfl
  refine W.go (fun T hT tg hs => ?_) (k H locs arr' hR hS h')
  jvm_step hT [hT.top, hx, hb, hd, e']
  first | exact hs | exact ⟨_, e', hs⟩ | exact ⟨rfl, _, e', hs⟩
theorem bq_astore_n (G : bq_Cx cc own nL z Rm nm A) {k0 : Fin 4} {x : Nat} {ls' : bq_LS} (hd : decode cc pc = .ok (.astore_n k0, 1)) (hp : pc + 1 = q) (hn : (k0 : Nat) + 0 < nL) (hnl : bq_nl ls (k0 : Nat) = true) (hls : bq_put ls (k0 : Nat) (some (.ref x)) = ls') (k : A cells slots q ls' st n R I L) : A cells slots pc ls (.ref x :: st) n R I L := by
  obtain ⟨p, l, e, s, m, args, below, meth, c, D, Q, hx, hb, hml, hown, hts, hK, hz, hnm, rfl⟩ := G
  subst hp
  subst hls
  intro H locs arr hR hS hl
  obtain ⟨arr', e', h'⟩ := bq_store1 (v := .ref x) hl hn hnl rfl
  refine W.go (fun T hT tg hs => ?_) (k H locs arr' hR hS h')
  jvm_step hT [hT.top, hx, hb, hd, e']
  first | exact hs | exact ⟨_, e', hs⟩ | exact ⟨rfl, _, e', hs⟩
theorem bq_astore (G : bq_Cx cc own nL z Rm nm A) {k0 : Nat} {x : Nat} {ls' : bq_LS} (hd : decode cc pc = .ok (.astore k0, 2)) (hp : pc + 2 = q) (hn : k0 + 0 < nL) (hnl : bq_nl ls k0 = true) (hls : bq_put ls k0 (some (.ref x)) = ls') (k : A cells slots q ls' st n R I L) : A cells slots pc ls (.ref x :: st) n R I L := by
  obtain ⟨p, l, e, s, m, args, below, meth, c, D, Q, hx, hb, hml, hown, hts, hK, hz, hnm, rfl⟩ := G
  subst hp
  subst hls
  intro H locs arr hR hS hl
  obtain ⟨arr', e', h'⟩ := bq_store1 (v := .ref x) hl hn hnl rfl
  refine W.go (fun T hT tg hs => ?_) (k H locs arr' hR hS h')
  jvm_step hT [hT.top, hx, hb, hd, e']
  first | exact hs | exact ⟨_, e', hs⟩ | exact ⟨rfl, _, e', hs⟩
theorem bq_lstore_n (G : bq_Cx cc own nL z Rm nm A) {k0 : Fin 4} {x : Int64} {ls' : bq_LS} (hd : decode cc pc = .ok (.lstore_n k0, 1)) (hp : pc + 1 = q) (hn : (k0 : Nat) + 1 < nL) (hnl : bq_nl ls (k0 : Nat) = true) (hls : bq_put (bq_put ls (k0 : Nat) (some (.long x))) ((k0 : Nat) + 1) none = ls') (k : A cells slots q ls' st n R I L) : A cells slots pc ls (.long x :: st) n R I L := by
  obtain ⟨p, l, e, s, m, args, below, meth, c, D, Q, hx, hb, hml, hown, hts, hK, hz, hnm, rfl⟩ := G
  subst hp
  subst hls
  intro H locs arr hR hS hl
  obtain ⟨arr', e', h'⟩ := bq_store2 (v := .long x) hl hn hnl rfl
  refine W.go (fun T hT tg hs => ?_) (k H locs arr' hR hS h')
  jvm_step hT [hT.top, hx, hb, hd, e']
  first | exact hs | exact ⟨_, e', hs⟩ | exact ⟨rfl, _, e', hs⟩
theorem bq_lstore (G : bq_Cx cc own nL z Rm nm A) {k0 : Nat} {x : Int64} {ls' : bq_LS} (hd : decode cc pc = .ok (.lstore k0, 2)) (hp : pc + 2 = q) (hn : k0 + 1 < nL) (hnl : bq_nl ls k0 = true) (hls : bq_put (bq_put ls k0 (some (.long x))) (k0 + 1) none = ls') (k : A cells slots q ls' st n R I L) : A cells slots pc ls (.long x :: st) n R I L := by
  obtain ⟨p, l, e, s, m, args, below, meth, c, D, Q, hx, hb, hml, hown, hts, hK, hz, hnm, rfl⟩ := G
  subst hp
  subst hls
  intro H locs arr hR hS hl
  obtain ⟨arr', e', h'⟩ := bq_store2 (v := .long x) hl hn hnl rfl
  refine W.go (fun T hT tg hs => ?_) (k H locs arr' hR hS h')
  jvm_step hT [hT.top, hx, hb, hd, e']
  first | exact hs | exact ⟨_, e', hs⟩ | exact ⟨rfl, _, e', hs⟩
theorem bq_iinc (G : bq_Cx cc own nL z Rm nm A) {k0 : Nat} {d : Int} {x v : Int32} {ls' : bq_LS} (hd : decode cc pc = .ok (.iinc k0 d, 3)) (hp : pc + 3 = q) (hl0 : bq_at ls k0 = some (.int x)) (hv : x + Int32.ofInt d = v) (hn : k0 < nL) (hnl : bq_nl ls k0 = true) (hls : bq_put ls k0 (some (.int v)) = ls') (k : A cells slots q ls' st n R I L) : A cells slots pc ls st n R I L := by
  obtain ⟨p, l, e, s, m, args, below, meth, c, D, Q, hx, hb, hml, hown, hts, hK, hz, hnm, rfl⟩ := G
  subst hp
  subst hls
  subst hv
  intro H locs arr hR hS hl
  obtain ⟨arr', e', h'⟩ := bq_store1 (v := .int (x + Int32.ofInt d)) hl hn hnl rfl
  have hg := hl.at hl0
  refine W.go (fun T hT tg hs => ?_) (k H locs arr' hR hS h')
  jvm_step hT [hT.top, hx, hb, hd, hg, e']
  first | exact hs | exact ⟨_, e', hs⟩ | exact ⟨rfl, _, e', hs⟩
end BqRows
end
section
/-! rows over the heap -/
def bq_FL (own : String) (idx ci j : Nat) : Prop := ci < 10 ∧ j < bq_nf ci ∧ Cond.fieldLink own idx (bq_Tn ci j).1 (bq_Tn ci j).2.1 (bq_Tn ci j).2.2.1 ∈ bq_tbl
theorem bq_Rel.put {z : Nat} {D : bq_D} {n a : Nat} {R R' : bq_RR} {I I' : bq_IR} {L L' : bq_LR} {H H1 : Heap} (hR : bq_Rel z D n R I L H) (ha : a < n) (he : va_at D.1 vwCl (z + a, bq_cell D (bq_sh a) (R' a) (I' a) (L' a)) H1) (hz : H1.size = H.size) (oq : ∀ q : Nat, q ≠ z + a → H1[q]? = H[q]?) (h1 : ∀ x, x ≠ a → R' x = R x) (h2 : ∀ x, x ≠ a → I' x = I x) (h3 : ∀ x, x ≠ a → L' x = L x) : bq_Rel z D n R' I' L' H1 := by
  refine ⟨hz.trans hR.1, ?_⟩
  rw [← bq_ws_set h1 h2 h3 rfl]
  exact hR.2.set (bq_ws_D z D n R I L) (bq_ws_get ha) he oq
theorem bq_fl_get {ci j : Nat} {r : Nat → Option Nat} {i : Nat → Int32} {l : Nat → Int64} (h : j < bq_nf ci) : (bq_flds ci r i l)[j]? = some (bq_fv (bq_ty ci j) (r j) (i j) (l j)) := by
  simp [bq_flds, h]
theorem bq_fl_len {ci : Nat} {r : Nat → Option Nat} {i : Nat → Int32} {l : Nat → Int64} : (bq_flds ci r i l).length = bq_nf ci := by simp [bq_flds]
theorem bq_fl_set {ci j : Nat} {r r' : Nat → Option Nat} {i i' : Nat → Int32} {l l' : Nat → Int64} {v : Value} (h : j < bq_nf ci) (hv : v = bq_fv (bq_ty ci j) (r' j) (i' j) (l' j)) (h1 : ∀ x, x ≠ j → r' x = r x) (h2 : ∀ x, x ≠ j → i' x = i x) (h3 : ∀ x, x ≠ j → l' x = l x) : (bq_flds ci r i l).set j v = bq_flds ci r' i' l' := by
  subst hv
  apply List.ext_getElem?
  intro k
  by_cases hk : k < bq_nf ci
  · by_cases hkj : k = j
    · subst hkj
      rw [List.getElem?_set_self (by rw [bq_fl_len]; exact hk), bq_fl_get hk]
    · rw [List.getElem?_set_ne (Ne.symm hkj), bq_fl_get hk, bq_fl_get hk, h1 k hkj, h2 k hkj, h3 k hkj]
  · have e1 : (bq_flds ci r' i' l')[k]? = none := by simp [bq_flds]; omega
    have e2 : ((bq_flds ci r i l).set j (bq_fv (bq_ty ci j) (r' j) (i' j) (l' j)))[k]? = none := by simp [bq_flds]; omega
    rw [e1, e2]
section BqHeap
variable {cc : ByteArray} {own nm : String} {nL z : Nat} {Rm : Room} {A : bq_A} {cells slots pc q n : Nat} {ls : bq_LS} {st : List Value} {R : bq_RR} {I : bq_IR} {L : bq_LR}
theorem bq_obj {D : bq_D} {a ci : Nat} (ho : bq_OB n a ci) : (bq_ws z D n R I L)[a]? = some (z + a, .inr (ci, bq_flds ci (R a) (I a) (L a))) := by
  rw [bq_ws_get ho.1, ho.2]; rfl
theorem bq_get (G : bq_Cx cc own nL z Rm nm A) {a ci j idx : Nat} (hd : decode cc pc = .ok (.getfield idx, 3)) (hp : pc + 3 = q) (hf : bq_FL own idx ci j) (ho : bq_OB n a ci) (k : A cells slots q ls (bq_fv (bq_ty ci j) (R a j) (I a j) (L a j) :: st) n R I L) : A cells slots pc ls (.ref (z + a) :: st) n R I L := by
  obtain ⟨p, l, e, s, m, args, below, meth, c, D, Q, hx, hb, hml, hown, hts, hK, hz, hnm, rfl⟩ := G
  subst hp
  intro H locs arr hR hS hl
  exact va_get (D := D.1) (cl := vwCl) (tys := bq_tys D) hx hb hts (bq_in hf.1) hown hK.1 hR.2 a (bq_obj ho) (bq_cl hf.1) j hf.2.1 (hts _ hf.2.2) (fun _ h => h) (bq_fl_get hf.2.1) hd (k H locs arr hR hS hl)
theorem bq_geti (G : bq_Cx cc own nL z Rm nm A) {a ci j idx : Nat} (hd : decode cc pc = .ok (.getfield idx, 3)) (hp : pc + 3 = q) (hf : bq_FL own idx ci j) (ho : bq_OB n a ci) (ht : bq_ty ci j = .int) (k : A cells slots q ls (.int (I a j) :: st) n R I L) : A cells slots pc ls (.ref (z + a) :: st) n R I L := bq_get G hd hp hf ho (by rw [ht]; exact k)
theorem bq_getl (G : bq_Cx cc own nL z Rm nm A) {a ci j idx : Nat} (hd : decode cc pc = .ok (.getfield idx, 3)) (hp : pc + 3 = q) (hf : bq_FL own idx ci j) (ho : bq_OB n a ci) (ht : bq_ty ci j = .long) (k : A cells slots q ls (.long (L a j) :: st) n R I L) : A cells slots pc ls (.ref (z + a) :: st) n R I L := bq_get G hd hp hf ho (by rw [ht]; exact k)
theorem bq_getr (G : bq_Cx cc own nL z Rm nm A) {a ci j idx b : Nat} (hd : decode cc pc = .ok (.getfield idx, 3)) (hp : pc + 3 = q) (hf : bq_FL own idx ci j) (ho : bq_OB n a ci) (ht : ∀ r i l, bq_fv (bq_ty ci j) r i l = va_rf r) (hr : R a j = some b) (k : A cells slots q ls (.ref b :: st) n R I L) : A cells slots pc ls (.ref (z + a) :: st) n R I L := bq_get G hd hp hf ho (by rw [ht, hr]; exact k)
theorem bq_putG (G : bq_Cx cc own nL z Rm nm A) {a ci j idx : Nat} {v : Value} {R' : bq_RR} {I' : bq_IR} {L' : bq_LR} (hd : decode cc pc = .ok (.putfield idx, 3)) (hp : pc + 3 = q) (hf : bq_FL own idx ci j) (ho : bq_OB n a ci) (hfin : (bq_Tn ci j).2.2.2 = false ∨ ((bq_Tn ci j).2.2.2 = true ∧ nm = "<init>" ∧ (bq_Tn ci j).1 = own)) (hn : narrow (bq_ty ci j) v = v) (hfit : fits (bq_ty ci j) v = true) (hset : (bq_flds ci (R a) (I a) (L a)).set j v = bq_flds ci (R' a) (I' a) (L' a)) (hR1 : ∀ x, x ≠ a → R' x = R x) (hI1 : ∀ x, x ≠ a → I' x = I x) (hL1 : ∀ x, x ≠ a → L' x = L x) (k : A cells slots q ls st n R' I' L') : A cells slots pc ls (v :: .ref (z + a) :: st) n R I L := by
  obtain ⟨p, l, e, s, m, args, below, meth, c, D, Q, hx, hb, hml, hown, hts, hK, hz, hnm, rfl⟩ := G
  subst hp
  intro H locs arr hR hS hl
  obtain ⟨hci, hj, hlink⟩ := hf
  have hap := va_apart (own := own) (D := D.1) (cl := vwCl) (tys := bq_tys D) hts (bq_in hci) (bq_ty ci) (bq_tyok hci) (bq_nm hci) hK.1 (bq_cl hci)
  obtain ⟨r, h1, cell, q1, q2, q3, q4⟩ := hR.2 a _ (bq_obj ho)
  have hr : r = (bq_Rn ci, bq_Tn ci, bq_nf ci) := Option.some.inj (h1.symm.trans (bq_cl hci))
  subst hr
  obtain ⟨hS2, hfc, kC, hkC, hkind⟩ := hK.1.1 ci _ (bq_cl hci)
  obtain ⟨cf, kf, fi, f, hi, hsl⟩ := hS2 j hj
  have hlay := hts _ (bq_in hci _ (u_in_lay hj))
  unfold u_lay at hlay
  have hst := (u_facts hfc hkC (u_lays hts (bq_in hci) hj) hi).1
  have fin : ∀ (H' : Heap) (i0 : Nat), H'[z + a]? = some (cell.setSlot (D.1.2 ci j) v) → H'.size = H.size → (∀ q, q ≠ z + a → H'[q]? = H[q]?) → W p l e Rm s m args below meth c H' (locs ++ [⟨z + a, i0⟩]) cells slots Q (F0 m (pc + 3) arr st) := by
    intro H' i0 e1 e2 e3
    refine k H' _ arr (hR.put ho.1 ?_ e2 e3 hR1 hI1 hL1) (hS.put e2 e3 (Nat.le_add_right z a)) hl
    rw [ho.2]
    show va_at D.1 vwCl (z + a, .inr (ci, bq_flds ci (R' a) (I' a) (L' a))) H'
    rw [← hset]
    exact ⟨_, bq_cl hci, t_OB.to (V := updV (vp_V (bq_flds ci (R a) (I a) (L a))) j v) ⟨_, e1, q2, q3, t_set q4 hap hj v⟩ (fun j0 _ => vp_updV_set (by rw [bq_fl_len]; exact hj) v j0)⟩
  rcases hfin with hfin | ⟨hfin, hini, hdecl⟩
  · rw [if_neg (by rw [hfin]; decide)] at hlay
    have h6 := u_store hfc hkC hkind hlay hi (bq_tyok hci j hj) hn hfit
    refine W.putK hx hb (f := f) ⟨hown, hts _ hlink, ⟨_, _, _, hi⟩, hst⟩ (by rw [q2]; exact h6) q1 q3 (by rw [hsl]; exact k2_hasslot (q4 j hj)) rfl rfl hd fun H' e1 e2 e3 => ?_
    rw [hsl] at e1 ⊢
    exact fin H' _ e1 e2 e3
  · rw [if_pos hfin] at hlay
    have hcf : m.cls = cf := by
      obtain ⟨_, _, c', _, _, _, -, -, hf', -, -, -, hown2, -⟩ := Cond.laysFinal_spec hlay
      have e1 : c' = cf := by have := hi.symm.trans hf'; simp at this; exact this.1.symm
      rw [hdecl] at hown2
      rw [← e1]; exact Option.some.inj (hown.symm.trans hown2)
    have h6 := u_fits hfc hkC hkind (Or.inr hlay) hi (bq_tyok hci j hj) hn hfit
    refine W.putFinK hx hb hown (hts _ hlink) hi hst hcf (hnm.trans hini) (by rw [q2]; exact h6) q1 q3 (by rw [hsl]; exact k2_hasslot (q4 j hj)) rfl rfl hd fun H' e1 e2 e3 => ?_
    rw [hsl] at e1 ⊢
    exact fin H' _ e1 e2 e3
theorem bq_puti (G : bq_Cx cc own nL z Rm nm A) {a ci j idx : Nat} {x : Int32} (hd : decode cc pc = .ok (.putfield idx, 3)) (hp : pc + 3 = q) (hf : bq_FL own idx ci j) (ho : bq_OB n a ci) (ht : bq_ty ci j = .int) (hfin : (bq_Tn ci j).2.2.2 = false) (k : A cells slots q ls st n R (bq_sr I a (upd (I a) j x)) L) : A cells slots pc ls (.int x :: .ref (z + a) :: st) n R I L :=
  bq_putG G hd hp hf ho (Or.inl hfin) (by rw [ht]; rfl) (by rw [ht]; rfl) (bq_fl_set hf.2.1 (by rw [ht, bq_sr_s]; simp [bq_fv, upd]) (fun _ _ => rfl) (fun y hy => by rw [bq_sr_s]; simp [upd, hy]) (fun _ _ => rfl)) (fun _ _ => rfl) (fun y hy => bq_sr_n hy) (fun _ _ => rfl) k
theorem bq_putl (G : bq_Cx cc own nL z Rm nm A) {a ci j idx : Nat} {x : Int64} (hd : decode cc pc = .ok (.putfield idx, 3)) (hp : pc + 3 = q) (hf : bq_FL own idx ci j) (ho : bq_OB n a ci) (ht : bq_ty ci j = .long) (hfin : (bq_Tn ci j).2.2.2 = false) (k : A cells slots q ls st n R I (bq_sr L a (vp_updL (L a) j x))) : A cells slots pc ls (.long x :: .ref (z + a) :: st) n R I L :=
  bq_putG G hd hp hf ho (Or.inl hfin) (by rw [ht]; rfl) (by rw [ht]; rfl) (bq_fl_set hf.2.1 (by rw [ht, bq_sr_s]; simp [bq_fv, vp_updL]) (fun _ _ => rfl) (fun _ _ => rfl) (fun y hy => by rw [bq_sr_s]; simp [vp_updL, hy])) (fun _ _ => rfl) (fun _ _ => rfl) (fun y hy => bq_sr_n hy) k
/-- a final reference, in its constructor -/
theorem bq_putr (G : bq_Cx cc own nL z Rm nm A) {a ci j idx b : Nat} (hd : decode cc pc = .ok (.putfield idx, 3)) (hp : pc + 3 = q) (hf : bq_FL own idx ci j) (ho : bq_OB n a ci) (ht : ∀ r i l, bq_fv (bq_ty ci j) r i l = va_rf r) (hn : narrow (bq_ty ci j) (.ref b) = .ref b) (hfit : fits (bq_ty ci j) (.ref b) = true) (hfin : (bq_Tn ci j).2.2.2 = true ∧ nm = "<init>" ∧ (bq_Tn ci j).1 = own) (k : A cells slots q ls st n (bq_sr R a (va_up (R a) j (some b))) I L) : A cells slots pc ls (.ref b :: .ref (z + a) :: st) n R I L :=
  bq_putG G hd hp hf ho (Or.inr hfin) hn hfit (bq_fl_set hf.2.1 (by rw [ht, bq_sr_s]; simp [va_rf, va_up]) (fun y hy => by rw [bq_sr_s]; simp [va_up, hy]) (fun _ _ => rfl) (fun _ _ => rfl)) (fun y hy => bq_sr_n hy) (fun _ _ => rfl) (fun _ _ => rfl) k
/-! arrays -/
theorem bq_arI {D : bq_D} {a len : Nat} (ho : bq_AR n a 0 len) : (bq_ws z D n R I L)[a]? = some (z + a, .inl (D.2.1 0, len, .inl (I a))) := by
  rw [bq_ws_get ho.1, ho.2]; rfl
theorem bq_arL {D : bq_D} {a len : Nat} (ho : bq_AR n a 1 len) : (bq_ws z D n R I L)[a]? = some (z + a, .inl (D.2.1 1, len, .inr (.inl (L a)))) := by
  rw [bq_ws_get ho.1, ho.2]; rfl
theorem bq_arZ {D : bq_D} {a len : Nat} (ho : bq_AR n a 2 len) : (bq_ws z D n R I L)[a]? = some (z + a, .inl (D.2.1 2, len, .inl (I a))) := by
  rw [bq_ws_get ho.1, ho.2]; rfl
theorem bq_arR {D : bq_D} {a len : Nat} (ho : bq_AR n a 3 len) : (bq_ws z D n R I L)[a]? = some (z + a, .inl (D.2.1 3, len, .inr (.inr (.inr (.inr (R a)))))) := by
  rw [bq_ws_get ho.1, ho.2]; rfl
theorem bq_iald (G : bq_Cx cc own nL z Rm nm A) {a len b : Nat} {i : Int32} (hd : decode cc pc = .ok (.iaload, 1)) (hp : pc + 1 = q) (ho : bq_AR n a 0 len) (hi : i = nI b) (hb : b < len) (hlen : len < 2 ^ 31) (k : A cells slots q ls (.int (I a b) :: st) n R I L) : A cells slots pc ls (.int i :: .ref (z + a) :: st) n R I L := by
  obtain ⟨p, l, e, s, m, args, below, meth, c, D, Q, hx, hbb, hml, hown, hts, hK, hz, hnm, rfl⟩ := G
  subst hp
  subst hi
  intro H locs arr hR hS hl
  refine va_iald (D := D.1) (cl := vwCl) (tys := bq_tys D) hx hbb hK.1 hR.2 a 0 (bq_arI ho) rfl (vp_in_nI hb hlen) hd ?_
  rw [nI_clamp (Nat.lt_trans hb hlen)]
  exact k H locs arr hR hS hl
theorem bq_zald (G : bq_Cx cc own nL z Rm nm A) {a len b : Nat} {i : Int32} (hd : decode cc pc = .ok (.baload, 1)) (hp : pc + 1 = q) (ho : bq_AR n a 2 len) (hi : i = nI b) (hb : b < len) (hlen : len < 2 ^ 31) (k : A cells slots q ls (.int (I a b) :: st) n R I L) : A cells slots pc ls (.int i :: .ref (z + a) :: st) n R I L := by
  obtain ⟨p, l, e, s, m, args, below, meth, c, D, Q, hx, hbb, hml, hown, hts, hK, hz, hnm, rfl⟩ := G
  subst hp
  subst hi
  intro H locs arr hR hS hl
  refine va_zald (D := D.1) (cl := vwCl) (tys := bq_tys D) hx hbb hK.1 hR.2 a 2 (bq_arZ ho) rfl (vp_in_nI hb hlen) hd ?_
  rw [nI_clamp (Nat.lt_trans hb hlen)]
  exact k H locs arr hR hS hl
theorem bq_lald (G : bq_Cx cc own nL z Rm nm A) {a len b : Nat} {i : Int32} (hd : decode cc pc = .ok (.laload, 1)) (hp : pc + 1 = q) (ho : bq_AR n a 1 len) (hi : i = nI b) (hb : b < len) (hlen : len < 2 ^ 31) (k : A cells slots q ls (.long (L a b) :: st) n R I L) : A cells slots pc ls (.int i :: .ref (z + a) :: st) n R I L := by
  obtain ⟨p, l, e, s, m, args, below, meth, c, D, Q, hx, hbb, hml, hown, hts, hK, hz, hnm, rfl⟩ := G
  subst hp
  subst hi
  intro H locs arr hR hS hl
  refine va_lald (D := D.1) (cl := vwCl) (tys := bq_tys D) hx hbb hK.1 hR.2 a 1 (bq_arL ho) rfl (vp_in_nI hb hlen) hd ?_
  rw [nI_clamp (Nat.lt_trans hb hlen)]
  exact k H locs arr hR hS hl
theorem bq_aald (G : bq_Cx cc own nL z Rm nm A) {a len b r : Nat} {i : Int32} (hd : decode cc pc = .ok (.aaload, 1)) (hp : pc + 1 = q) (ho : bq_AR n a 3 len) (hi : i = nI b) (hb : b < len) (hlen : len < 2 ^ 31) (hr : R a b = some r) (k : A cells slots q ls (.ref r :: st) n R I L) : A cells slots pc ls (.int i :: .ref (z + a) :: st) n R I L := by
  obtain ⟨p, l, e, s, m, args, below, meth, c, D, Q, hx, hbb, hml, hown, hts, hK, hz, hnm, rfl⟩ := G
  subst hp
  subst hi
  intro H locs arr hR hS hl
  refine va_aldq (D := D.1) (cl := vwCl) (tys := bq_tys D) hx hbb hK.1 hR.2 a 3 (bq_arR ho) rfl (vp_in_nI hb hlen) hd ?_
  rw [nI_clamp (Nat.lt_trans hb hlen), hr]
  exact k H locs arr hR hS hl
theorem bq_alen (G : bq_Cx cc own nL z Rm nm A) {a len : Nat} (hd : decode cc pc = .ok (.arraylength, 1)) (hp : pc + 1 = q) (ho : bq_AR n a 0 len) (k : A cells slots q ls (.int (nI len) :: st) n R I L) : A cells slots pc ls (.ref (z + a) :: st) n R I L := by
  obtain ⟨p, l, e, s, m, args, below, meth, c, D, Q, hx, hbb, hml, hown, hts, hK, hz, hnm, rfl⟩ := G
  subst hp
  intro H locs arr hR hS hl
  exact va_alen (D := D.1) (cl := vwCl) (tys := bq_tys D) hx hbb hK.1 hR.2 a 0 (bq_arI ho) (ty := .int) rfl rfl hd (k H locs arr hR hS hl)
theorem bq_iast (G : bq_Cx cc own nL z Rm nm A) {a len b : Nat} {i x : Int32} (hd : decode cc pc = .ok (.iastore, 1)) (hp : pc + 1 = q) (ho : bq_AR n a 0 len) (hi : i = nI b) (hb : b < len) (hlen : len < 2 ^ 31) (k : A cells slots q ls st n R (bq_sr I a (upd (I a) b x)) L) : A cells slots pc ls (.int x :: .int i :: .ref (z + a) :: st) n R I L := by
  obtain ⟨p, l, e, s, m, args, below, meth, c, D, Q, hx, hbb, hml, hown, hts, hK, hz, hnm, rfl⟩ := G
  subst hp
  subst hi
  intro H locs arr hR hS hl
  refine W.iast hx hbb (hR.2 a _ (bq_arI ho)) ((hK.1.2 0 _ rfl).1 len (fun j => .int (I a j))) (fun q => by cases q) (by show ¬ (nI b < 0 ∨ (arrV _ _ _).slots.size ≤ _); rw [arrV_size]; exact vp_in_nI hb hlen) rfl rfl hd fun H1 e z1 oq => ?_
  refine k H1 _ arr (hR.put ho.1 ?_ z1 oq (fun _ _ => rfl) (fun y hy => bq_sr_n hy) (fun _ _ => rfl)) (hS.put z1 oq (Nat.le_add_right z a)) hl
  rw [ho.2, bq_sr_s]
  show H1[z + a]? = some (vp_cell _ _)
  rw [e]
  rw [vp_cell_i, vp_cell_i, arrV_store, nI_clamp (Nat.lt_trans hb hlen)]
  congr 2
  funext q
  by_cases hq : q = b
  · subst hq
    simp [updV, upd]
  · simp [updV, upd, hq]
theorem bq_zast (G : bq_Cx cc own nL z Rm nm A) {a len b : Nat} {i x : Int32} (hd : decode cc pc = .ok (.bastore, 1)) (hp : pc + 1 = q) (ho : bq_AR n a 2 len) (hi : i = nI b) (hb : b < len) (hlen : len < 2 ^ 31) (hx01 : vp_nar .boolean x = x ∧ narrow .boolean (.int x) = .int x) (k : A cells slots q ls st n R (bq_sr I a (upd (I a) b x)) L) : A cells slots pc ls (.int x :: .int i :: .ref (z + a) :: st) n R I L := by
  obtain ⟨p, l, e, s, m, args, below, meth, c, D, Q, hx, hbb, hml, hown, hts, hK, hz, hnm, rfl⟩ := G
  subst hp
  subst hi
  intro H locs arr hR hS hl
  refine W.zast hx hbb (hR.2 a _ (bq_arZ ho)) ((hK.1.2 2 _ rfl).1 len (fun j => .int (I a j))) (fun q => by cases q) (by show ¬ (nI b < 0 ∨ (arrV _ _ _).slots.size ≤ _); rw [arrV_size]; exact vp_in_nI hb hlen) rfl rfl hd fun H1 e z1 oq => ?_
  refine k H1 _ arr (hR.put ho.1 ?_ z1 oq (fun _ _ => rfl) (fun y hy => bq_sr_n hy) (fun _ _ => rfl)) (hS.put z1 oq (Nat.le_add_right z a)) hl
  rw [ho.2, bq_sr_s]
  show H1[z + a]? = some (vp_cell _ _)
  rw [e]
  rw [vp_cell_i, vp_cell_i, arrV_store, nI_clamp (Nat.lt_trans hb hlen)]
  congr 2
  funext q
  by_cases hq : q = b
  · subst hq
    simp [updV, upd, hx01.2]
  · simp [updV, upd, hq]
theorem bq_last (G : bq_Cx cc own nL z Rm nm A) {a len b : Nat} {i : Int32} {x : Int64} (hd : decode cc pc = .ok (.lastore, 1)) (hp : pc + 1 = q) (ho : bq_AR n a 1 len) (hi : i = nI b) (hb : b < len) (hlen : len < 2 ^ 31) (k : A cells slots q ls st n R I (bq_sr L a (vp_updL (L a) b x))) : A cells slots pc ls (.long x :: .int i :: .ref (z + a) :: st) n R I L := by
  obtain ⟨p, l, e, s, m, args, below, meth, c, D, Q, hx, hbb, hml, hown, hts, hK, hz, hnm, rfl⟩ := G
  subst hp
  subst hi
  intro H locs arr hR hS hl
  refine W.last hx hbb (hR.2 a _ (bq_arL ho)) ((hK.1.2 1 _ rfl).1 len (fun j => .long (L a j))) (fun q => by cases q) (by show ¬ (nI b < 0 ∨ (arrV _ _ _).slots.size ≤ _); rw [arrV_size]; exact vp_in_nI hb hlen) rfl rfl hd fun H1 e z1 oq => ?_
  refine k H1 _ arr (hR.put ho.1 ?_ z1 oq (fun _ _ => rfl) (fun _ _ => rfl) (fun y hy => bq_sr_n hy)) (hS.put z1 oq (Nat.le_add_right z a)) hl
  rw [ho.2, bq_sr_s]
  show H1[z + a]? = some (vp_cell _ _)
  rw [e]
  rw [vp_cell_l, vp_cell_l, arrV_store, nI_clamp (Nat.lt_trans hb hlen)]
  congr 2
  funext q
  by_cases hq : q = b
  · subst hq
    simp [updV, vp_updL]
  · simp [updV, vp_updL, hq]
/-! calls -/
def bq_CB (own : String) (idx : Nat) (M : bq_M) (np : Nat) : Prop := Cond.methodLink own idx M.1 ∈ bq_tbl ∧ Cond.initialized M.1.cls ∈ bq_tbl ∧ Cond.code M.1 M.2.1 M.2.2.1 M.2.2.2.1 ∈ bq_tbl ∧ (M.1.cls ≠ "java/lang/invoke/MethodHandle" ∧ M.1.cls ≠ "java/lang/invoke/VarHandle" ∧ (parseMethodDescriptor M.1.desc).map (fun d => d.parameters.length) = some np)
def bq_CV (own : String) (idx : Nat) (M : bq_M) (np ci : Nat) : Prop := bq_CB own idx M np ∧ Cond.instanceMethod M.1 ∈ bq_tbl ∧ Cond.selects M.1.cls M.1 M.1 ∈ bq_tbl ∧ ci < 10 ∧ bq_Rn ci = M.1.cls
def bq_CS (own : String) (idx : Nat) (M : bq_M) (np : Nat) : Prop := bq_CB own idx M np ∧ Cond.static M.1 ∈ bq_tbl
def bq_CI (own : String) (idx : Nat) (M : bq_M) (np : Nat) : Prop := bq_CB own idx M np ∧ M.1.name = "<init>" ∧ Cond.instanceMethod M.1 ∈ bq_tbl
def bq_fit (M : bq_M) (Rm : Room) : Prop := M.2.2.2.2.1 + 1 ≤ Rm.frames ∧ 8 + (M.2.2.1 + 11) + M.2.2.2.2.2 ≤ Rm.locals
theorem bq_callB {own : String} {idx : Nat} {M : bq_M} {np mc ms : Nat} {R0 : Room} {s : State} {args : Array Value} (hts : ∀ w ∈ bq_tbl, w.before args s = true) (hC : bq_CB own idx M np) (hf : bq_fit M R0) : CallB R0 s args own idx M.1 M.2.1 M.2.2.1 M.2.2.2.1 (Cond.code M.1 M.2.1 M.2.2.1 M.2.2.2.1 :: bq_tbl) (bq_rm M mc ms) mc ms np :=
  callB_of np hts (bq_goodIn hC.2.2.1) rfl rfl rfl (hts _ hC.2.1) (hts _ hC.1) hC.2.2.2 hf
theorem bq_pre {z : Nat} {D : bq_D} {s : State} {H : Heap} {locs : List Loc} {av : List Value} (hK : bq_KK z D s s.heap) (hS : va_S (fun q => z ≤ q) s.heap H locs) (hR : bq_Rel z D n R I L H) : PreS s H (va_Pc av (fun U => bq_KK z D U U.heap ∧ bq_Rel z D n R I L U.heap)) av := by
  refine ⟨fun a U g mk h => ⟨h.1, h.2.1.call g mk a, h.2.2⟩, fun U hU hW => ⟨rfl, ?_, ?_⟩⟩
  · rw [hU]; exact hK.go hW hS
  · rw [hU]; exact hR
theorem bq_cont {p : Program} {l : Launch} {e : Env} {s : State} {m : MethodId} {args : Array Value} {below : List Frame} {meth : Method} {c : Code} {D : bq_D} {Q : State → Prop} {H : Heap} {locs : List Loc} {arr : Array Slot} {mc ms n' : Nat} {res : Option Value} {R' : bq_RR} {I' : bq_IR} {L' : bq_LR} {rest : List Value}
    (hr : va_Run p l e Rm s m args below meth c H locs cells slots mc ms (F0 m pc arr st) rest (fun st o t => o = .returned res ∧ bq_Rel z D n' R' I' L' t.heap ∧ va_F (fun q => z ≤ q) st t) (fun q => z ≤ q)) (hS : va_S (fun q => z ≤ q) s.heap H locs)
    (kk : ∀ (H1 : Heap) (locs1 : List Loc), bq_Rel z D n' R' I' L' H1 → va_S (fun q => z ≤ q) s.heap H1 locs1 → W p l e Rm s m args below meth c H1 locs1 (cells + mc) (slots + ms) Q (F0 m (pc + 3) arr (res.toList ++ rest))) : W p l e Rm s m args below meth c H locs cells slots Q (F0 m pc arr st) := by
  intro T hT X
  obtain ⟨v, st₀, t, T', L0, h0, X', hL, e1, e2, ⟨hv, hb, hz, hk⟩, stp⟩ := hr T hT X
  cases hv
  rw [h0] at hz hk
  obtain ⟨t2, a1, b1⟩ := kk T'.heap (locs ++ L0) (by rw [e1]; exact hb)
    ⟨Nat.le_trans hS.1 (by rw [e1]; exact hz), fun q h1 h2 => by rw [e1, hk q (Nat.lt_of_lt_of_le h1 hS.1) h2]; exact hS.2.1 q h1 h2, fun q hq => by
      rcases List.mem_append.mp hq with h | h
      · exact hS.2.2 q h
      · exact hL q h⟩ T' rfl X'
  exact ⟨t2, stp t2 a1, b1⟩
theorem bq_recv {D : bq_D} {s : State} {H : Heap} {a ci : Nat} (hK : bq_KK z D s s.heap) (hR : bq_Rel z D n R I L H) (hci : ci < 10) (ho : bq_OB n a ci) : ∃ cell : Cell, H[z + a]? = some cell ∧ cell.vm.isStatics = false ∧ s.vm.findClass (bq_Rn ci) = some cell.cls := va_recv hK.1 hR.2 (bq_cl hci) (bq_obj ho)
section BqCalls
variable {M : bq_M} {np mc ms n' idx : Nat} {res : Option Value} {R' : bq_RR} {I' : bq_IR} {L' : bq_LR} {rest As : List Value}
theorem bq_callv (G : bq_Cx cc own nL z Rm nm A) {a ci : Nat} (hd : decode cc pc = .ok (.invokevirtual idx, 3)) (hp : pc + 3 = q) (hC : bq_CV own idx M np ci) (F : bq_FC M z (.ref (z + a) :: As) n R I L mc ms res n' R' I' L') (hs : st = As.reverse ++ .ref (z + a) :: rest) (ho : bq_OB n a ci) (hnp : As.length = np) (hfit : bq_fit M Rm) (hroom : (rest.map fun v => v.category).sum ≤ 8) (hcs : cells + mc ≤ Rm.cells ∧ slots + ms ≤ Rm.slots) {st' : List Value} (hst : res.toList ++ rest = st') (k : A (cells + mc) (slots + ms) q ls st' n' R' I' L') : A cells slots pc ls st n R I L := by
  obtain ⟨p, l, e, s, m, args, below, meth, c, D, Q, hx, hb, hml, hown, hts, hK, hz, hnm, rfl⟩ := G
  subst hp
  subst hst
  intro H locs arr hR hS hl
  have hpre := bq_pre (av := .ref (z + a) :: As) hK hS hR
  refine bq_cont (va_runV (As := As) (rest := rest) ⟨hx, hb, hml, hown, hts⟩ (F l D) ⟨bq_callB hts hC.1 hfit, hts _ hC.2.1, hts _ hC.2.2.1⟩ ⟨hpre.1, ?_, hpre.2⟩ rfl hnp hl.1 hs (lv_room hroom) hd hcs) hS (fun H1 locs1 hR1 hS1 => k H1 locs1 arr hR1 hS1 hl)
  rw [← hC.2.2.2.2]
  exact bq_recv hK hR hC.2.2.2.1 ho
theorem bq_calls (G : bq_Cx cc own nL z Rm nm A) (hd : decode cc pc = .ok (.invokestatic idx, 3)) (hp : pc + 3 = q) (hC : bq_CS own idx M np) (F : bq_FC M z As n R I L mc ms res n' R' I' L') (hs : st = As.reverse ++ rest) (hnp : As.length = np) (hfit : bq_fit M Rm) (hroom : (rest.map fun v => v.category).sum ≤ 8) (hcs : cells + mc ≤ Rm.cells ∧ slots + ms ≤ Rm.slots) {st' : List Value} (hst : res.toList ++ rest = st') (k : A (cells + mc) (slots + ms) q ls st' n' R' I' L') : A cells slots pc ls st n R I L := by
  obtain ⟨p, l, e, s, m, args, below, meth, c, D, Q, hx, hb, hml, hown, hts, hK, hz, hnm, rfl⟩ := G
  subst hp
  subst hst
  intro H locs arr hR hS hl
  exact bq_cont (va_runS (As := As) (rest := rest) ⟨hx, hb, hml, hown, hts⟩ (F l D) ⟨bq_callB hts hC.1 hfit, hts _ hC.2⟩ (bq_pre (av := As) hK hS hR) rfl hnp hl.1 hs (lv_room hroom) hd hcs) hS (fun H1 locs1 hR1 hS1 => k H1 locs1 arr hR1 hS1 hl)
theorem bq_calli (G : bq_Cx cc own nL z Rm nm A) {a : Nat} (hd : decode cc pc = .ok (.invokespecial idx, 3)) (hp : pc + 3 = q) (hC : bq_CI own idx M np) (hret : M.2.2.2.1 = none) (F : bq_FC M z (.ref (z + a) :: As) n R I L mc ms res n' R' I' L') (hs : st = As.reverse ++ .ref (z + a) :: rest) (hnp : As.length = np) (hfit : bq_fit M Rm) (hroom : (rest.map fun v => v.category).sum ≤ 8) (hcs : cells + mc ≤ Rm.cells ∧ slots + ms ≤ Rm.slots) {st' : List Value} (hst : res.toList ++ rest = st') (k : A (cells + mc) (slots + ms) q ls st' n' R' I' L') : A cells slots pc ls st n R I L := by
  obtain ⟨p, l, e, s, m, args, below, meth, c, D, Q, hx, hb, hml, hown, hts, hK, hz, hnm, rfl⟩ := G
  subst hp
  subst hst
  intro H locs arr hR hS hl
  have hB := bq_callB (mc := mc) (ms := ms) hts hC.1 hfit
  rw [hret] at hB
  have hF := F l D
  rw [hret] at hF
  exact bq_cont (va_runI (As := As) (rest := rest) ⟨hx, hb, hml, hown, hts⟩ hF ⟨hB, hC.2.1, hts _ hC.2.2⟩ (bq_pre (av := .ref (z + a) :: As) hK hS hR) rfl hnp hl.1 hs (lv_room hroom) hd hcs) hS (fun H1 locs1 hR1 hS1 => k H1 locs1 arr hR1 hS1 hl)
end BqCalls
end BqHeap
end
section
abbrev MX0_init : bq_M := (yX0_init, cX0_init, 1, none, 2, 42)
abbrev MX0_tellNothing : bq_M := (yX0_tellNothing, cX0_tellNothing, 2, none, 1, 21)
abbrev MX0_copyFrom : bq_M := (yX0_copyFrom, cX0_copyFrom, 3, none, 1, 22)
abbrev MX0_tellSetting : bq_M := (yX0_tellSetting, cX0_tellSetting, 3, none, 0, 0)
abbrev MX0_tellBroom : bq_M := (yX0_tellBroom, cX0_tellBroom, 4, none, 1, 24)
abbrev MX0_begin : bq_M := (yX0_begin, cX0_begin, 1, none, 1, 22)
abbrev MX0_heightOf : bq_M := (yX0_heightOf, cX0_heightOf, 3, (some .int), 0, 0)
abbrev MX0_isAboveMark : bq_M := (yX0_isAboveMark, cX0_isAboveMark, 2, (some .boolean), 1, 22)
abbrev MX0_stairWidth : bq_M := (yX0_stairWidth, cX0_stairWidth, 1, (some .int), 0, 0)
abbrev MX0_drainCups : bq_M := (yX0_drainCups, cX0_drainCups, 1, (some .int), 0, 0)
abbrev MX1_init : bq_M := (yX1_init, cX1_init, 1, none, 1, 20)
abbrev MX1_become : bq_M := (yX1_become, cX1_become, 7, none, 1, 30)
abbrev MX1_plus : bq_M := (yX1_plus, cX1_plus, 5, none, 2, 56)
abbrev MX1_part : bq_M := (yX1_part, cX1_part, 2, (some .long), 0, 0)
abbrev MX1_commonDivisor : bq_M := (yX1_commonDivisor, cX1_commonDivisor, 11, (some .long), 0, 0)
abbrev MX2_init : bq_M := (yX2_init, cX2_init, 1, none, 1, 20)
abbrev MX2_asBroom : bq_M := (yX2_asBroom, cX2_asBroom, 2, (some .int), 0, 0)
abbrev MX2_asWet : bq_M := (yX2_asWet, cX2_asWet, 3, (some .int), 1, 21)
abbrev MX2_asHalf : bq_M := (yX2_asHalf, cX2_asHalf, 3, (some .int), 1, 21)
abbrev MX2_asBored : bq_M := (yX2_asBored, cX2_asBored, 3, (some .int), 2, 43)
abbrev MX2_asBurning : bq_M := (yX2_asBurning, cX2_asBurning, 4, (some .int), 2, 43)
abbrev MX2_asTeaching : bq_M := (yX2_asTeaching, cX2_asTeaching, 3, (some .int), 1, 21)
abbrev MX3_init : bq_M := (yX3_init, cX3_init, 1, none, 1, 20)
abbrev MX3_add : bq_M := (yX3_add, cX3_add, 2, (some .boolean), 0, 0)
abbrev MX3_at : bq_M := (yX3_at, cX3_at, 2, (some .int), 0, 0)
abbrev MX4_init : bq_M := (yX4_init, cX4_init, 1, none, 1, 20)
abbrev MX4_add : bq_M := (yX4_add, cX4_add, 3, (some .boolean), 0, 0)
abbrev MX4_allowWater : bq_M := (yX4_allowWater, cX4_allowWater, 4, (some .boolean), 0, 0)
abbrev MX5_init : bq_M := (yX5_init, cX5_init, 1, none, 1, 20)
abbrev MX5_copyFrom : bq_M := (yX5_copyFrom, cX5_copyFrom, 3, none, 0, 0)
abbrev MX5_empty : bq_M := (yX5_empty, cX5_empty, 2, none, 0, 0)
abbrev MX5_place : bq_M := (yX5_place, cX5_place, 5, none, 0, 0)
abbrev MX5_isThere : bq_M := (yX5_isThere, cX5_isThere, 2, (some .boolean), 1, 21)
abbrev MX5_loadOf : bq_M := (yX5_loadOf, cX5_loadOf, 2, (some .int), 0, 0)
abbrev MX5_pass : bq_M := (yX5_pass, cX5_pass, 5, none, 2, 42)
abbrev MX5_comes : bq_M := (yX5_comes, cX5_comes, 2, none, 1, 21)
abbrev MX5_firstFree : bq_M := (yX5_firstFree, cX5_firstFree, 2, (some .int), 2, 42)
abbrev MX5_canSplit : bq_M := (yX5_canSplit, cX5_canSplit, 2, (some .boolean), 3, 63)
abbrev MX5_split : bq_M := (yX5_split, cX5_split, 3, (some .int), 4, 84)
abbrev MX5_alike : bq_M := (yX5_alike, cX5_alike, 3, (some .int), 1, 21)
abbrev MX5_comings : bq_M := (yX5_comings, cX5_comings, 4, (some .int), 2, 42)
abbrev MX6_init : bq_M := (yX6_init, cX6_init, 2, none, 2, 40)
abbrev MX6_remember : bq_M := (yX6_remember, cX6_remember, 3, none, 1, 22)
abbrev MX6_bringBack : bq_M := (yX6_bringBack, cX6_bringBack, 3, none, 1, 22)
abbrev MX7_init : bq_M := (yX7_init, cX7_init, 1, none, 1, 20)
abbrev MX7_read : bq_M := (yX7_read, cX7_read, 6, (some .int), 7, 159)
abbrev MX7_isOneTooMany : bq_M := (yX7_isOneTooMany, cX7_isOneTooMany, 3, (some .boolean), 1, 21)
abbrev MX7_readItem : bq_M := (yX7_readItem, cX7_readItem, 6, (some .boolean), 3, 66)
abbrev MX7_isWithin : bq_M := (yX7_isWithin, cX7_isWithin, 2, (some .boolean), 0, 0)
abbrev MX7_step : bq_M := (yX7_step, cX7_step, 3, none, 2, 44)
abbrev MX7_stepOverNumber : bq_M := (yX7_stepOverNumber, cX7_stepOverNumber, 4, none, 1, 21)
abbrev MX7_isDigit : bq_M := (yX7_isDigit, cX7_isDigit, 1, (some .boolean), 0, 0)
abbrev MX8_init : bq_M := (yX8_init, cX8_init, 2, none, 3, 62)
abbrev MX8_type : bq_M := (yX8_type, cX8_type, 2, (some .int), 1, 21)
abbrev MX8_clear : bq_M := (yX8_clear, cX8_clear, 2, (some .int), 0, 0)
abbrev MX8_cellar : bq_M := (yX8_cellar, cX8_cellar, 3, (some .int), 8, 184)
abbrev MX8_broom : bq_M := (yX8_broom, cX8_broom, 3, (some .int), 1, 21)
abbrev MX8_now : bq_M := (yX8_now, cX8_now, 2, (some .int), 1, 22)
abbrev MX8_minute : bq_M := (yX8_minute, cX8_minute, 2, (some .int), 3, 66)
abbrev MX8_splits : bq_M := (yX8_splits, cX8_splits, 2, (some .int), 5, 106)
abbrev MX8_teaches : bq_M := (yX8_teaches, cX8_teaches, 2, (some .int), 2, 44)
abbrev MX8_bores : bq_M := (yX8_bores, cX8_bores, 2, (some .int), 2, 44)
abbrev MX8_burns : bq_M := (yX8_burns, cX8_burns, 2, (some .int), 3, 65)
abbrev MX8_halts : bq_M := (yX8_halts, cX8_halts, 2, (some .int), 3, 65)
abbrev MX8_undo : bq_M := (yX8_undo, cX8_undo, 1, (some .int), 2, 44)
abbrev MX8_takeAway : bq_M := (yX8_takeAway, cX8_takeAway, 2, (some .int), 2, 44)
abbrev MX8_stands : bq_M := (yX8_stands, cX8_stands, 3, (some .int), 3, 66)
abbrev MX8_above : bq_M := (yX8_above, cX8_above, 2, (some .int), 3, 66)
abbrev MX8_most : bq_M := (yX8_most, cX8_most, 4, (some .int), 3, 66)
abbrev MX8_lookAhead : bq_M := (yX8_lookAhead, cX8_lookAhead, 1, none, 1, 22)
abbrev MX8_teach : bq_M := (yX8_teach, cX8_teach, 2, (some .int), 6, 141)
abbrev MX8_burn : bq_M := (yX8_burn, cX8_burn, 2, (some .int), 6, 141)
abbrev MX8_stair : bq_M := (yX8_stair, cX8_stair, 3, (some .int), 4, 91)
abbrev MX8_drain : bq_M := (yX8_drain, cX8_drain, 3, (some .int), 4, 91)
abbrev MX8_isPlanned : bq_M := (yX8_isPlanned, cX8_isPlanned, 1, (some .boolean), 0, 0)
abbrev MX8_fewest : bq_M := (yX8_fewest, cX8_fewest, 8, (some .int), 5, 114)
abbrev MX8_helps : bq_M := (yX8_helps, cX8_helps, 4, (some .boolean), 4, 91)
abbrev MX8_staysAtMark : bq_M := (yX8_staysAtMark, cX8_staysAtMark, 6, (some .boolean), 3, 66)
abbrev MX8_flow : bq_M := (yX8_flow, cX8_flow, 4, (some .long), 3, 80)
abbrev MX8_splitOn : bq_M := (yX8_splitOn, cX8_splitOn, 6, (some .int), 2, 42)
abbrev MX8_price : bq_M := (yX8_price, cX8_price, 5, (some .int), 3, 66)
abbrev MX8_heard : bq_M := (yX8_heard, cX8_heard, 4, (some .int), 3, 66)
abbrev MX8_measured : bq_M := (yX8_measured, cX8_measured, 3, (some .int), 1, 22)
abbrev MX8_forget : bq_M := (yX8_forget, cX8_forget, 2, (some .int), 0, 0)
abbrev MX8_splitFirst : bq_M := (yX8_splitFirst, cX8_splitFirst, 3, (some .int), 5, 106)
abbrev MX8_isAsMeasured : bq_M := (yX8_isAsMeasured, cX8_isAsMeasured, 3, (some .boolean), 3, 66)
abbrev MX8_odds : bq_M := (yX8_odds, cX8_odds, 12, (some .int), 3, 65)
abbrev MX8_countWays : bq_M := (yX8_countWays, cX8_countWays, 7, (some .long), 0, 0)
abbrev MX8_rate : bq_M := (yX8_rate, cX8_rate, 4, (some .int), 3, 66)
abbrev MX8_keep : bq_M := (yX8_keep, cX8_keep, 3, (some .int), 1, 22)
abbrev MX8_back : bq_M := (yX8_back, cX8_back, 3, (some .int), 1, 22)
abbrev MX8_count : bq_M := (yX8_count, cX8_count, 2, (some .int), 1, 20)
abbrev MX8_trace : bq_M := (yX8_trace, cX8_trace, 1, (some .long), 0, 0)
abbrev MX8_bitOf : bq_M := (yX8_bitOf, cX8_bitOf, 2, (some .int), 0, 0)
abbrev MX9_init : bq_M := (yX9_init, cX9_init, 1, none, 6, 130)
abbrev MX9_in : bq_M := (yX9_in, cX9_in, 3, (some .boolean), 0, 0)
abbrev MX9_isNumber : bq_M := (yX9_isNumber, cX9_isNumber, 1, (some .boolean), 1, 22)
abbrev MX9_isThere : bq_M := (yX9_isThere, cX9_isThere, 2, (some .boolean), 2, 42)
abbrev MX9_ones : bq_M := (yX9_ones, cX9_ones, 3, (some .int), 0, 0)
abbrev MX9_type : bq_M := (yX9_type, cX9_type, 2, (some .int), 1, 22)
abbrev MX9_clear : bq_M := (yX9_clear, cX9_clear, 2, (some .int), 0, 0)
abbrev MX9_letterAt : bq_M := (yX9_letterAt, cX9_letterAt, 2, (some .int), 0, 0)
abbrev MX9_isDigit : bq_M := (yX9_isDigit, cX9_isDigit, 1, (some .boolean), 1, 22)
abbrev MX9_itemOf : bq_M := (yX9_itemOf, cX9_itemOf, 1, (some .int), 0, 0)
abbrev MX9_token : bq_M := (yX9_token, cX9_token, 2, none, 2, 42)
abbrev MX9_number : bq_M := (yX9_number, cX9_number, 4, (some .boolean), 3, 63)
abbrev MX9_readsItem : bq_M := (yX9_readsItem, cX9_readsItem, 4, (some .boolean), 4, 86)
abbrev MX9_reads : bq_M := (yX9_reads, cX9_reads, 2, (some .boolean), 5, 109)
abbrev MX9_high : bq_M := (yX9_high, cX9_high, 1, (some .int), 0, 0)
abbrev MX9_begins : bq_M := (yX9_begins, cX9_begins, 2, none, 1, 20)
abbrev MX9_tells : bq_M := (yX9_tells, cX9_tells, 2, none, 2, 41)
abbrev MX9_cellar : bq_M := (yX9_cellar, cX9_cellar, 1, (some .int), 6, 130)
abbrev MX9_broom : bq_M := (yX9_broom, cX9_broom, 3, (some .int), 2, 42)
abbrev MX9_there : bq_M := (yX9_there, cX9_there, 3, (some .int), 0, 0)
abbrev MX9_now : bq_M := (yX9_now, cX9_now, 2, (some .int), 1, 22)
abbrev MX9_keeps : bq_M := (yX9_keeps, cX9_keeps, 2, none, 0, 0)
abbrev MX9_carries : bq_M := (yX9_carries, cX9_carries, 2, (some .int), 0, 0)
abbrev MX9_goes : bq_M := (yX9_goes, cX9_goes, 5, (some .int), 1, 21)
abbrev MX9_asTold : bq_M := (yX9_asTold, cX9_asTold, 1, none, 0, 0)
abbrev MX9_minute : bq_M := (yX9_minute, cX9_minute, 1, (some .int), 2, 45)
abbrev MX9_free : bq_M := (yX9_free, cX9_free, 3, (some .int), 0, 0)
abbrev MX9_splitsNow : bq_M := (yX9_splitsNow, cX9_splitsNow, 4, (some .int), 1, 22)
abbrev MX9_canSplit : bq_M := (yX9_canSplit, cX9_canSplit, 2, (some .boolean), 1, 22)
abbrev MX9_splits : bq_M := (yX9_splits, cX9_splits, 2, (some .int), 3, 63)
abbrev MX9_teaches : bq_M := (yX9_teaches, cX9_teaches, 2, (some .int), 3, 63)
abbrev MX9_bores : bq_M := (yX9_bores, cX9_bores, 2, (some .int), 3, 63)
abbrev MX9_burns : bq_M := (yX9_burns, cX9_burns, 2, (some .int), 3, 63)
abbrev MX9_halts : bq_M := (yX9_halts, cX9_halts, 2, (some .int), 3, 63)
abbrev MX9_undo : bq_M := (yX9_undo, cX9_undo, 2, (some .int), 0, 0)
abbrev MX9_holds : bq_M := (yX9_holds, cX9_holds, 2, none, 1, 20)
abbrev MX9_lets : bq_M := (yX9_lets, cX9_lets, 2, none, 0, 0)
abbrev MX9_stands : bq_M := (yX9_stands, cX9_stands, 3, (some .int), 2, 45)
abbrev MX9_above : bq_M := (yX9_above, cX9_above, 3, (some .int), 2, 45)
abbrev MX9_highest : bq_M := (yX9_highest, cX9_highest, 4, (some .int), 2, 45)
abbrev MX9_most : bq_M := (yX9_most, cX9_most, 3, (some .int), 3, 68)
abbrev MX9_fewest : bq_M := (yX9_fewest, cX9_fewest, 8, (some .int), 3, 68)
abbrev MX9_teach : bq_M := (yX9_teach, cX9_teach, 2, (some .int), 4, 95)
abbrev MX9_burn : bq_M := (yX9_burn, cX9_burn, 2, (some .int), 4, 95)
abbrev MX9_stair : bq_M := (yX9_stair, cX9_stair, 4, (some .int), 3, 68)
abbrev MX9_drain : bq_M := (yX9_drain, cX9_drain, 4, (some .int), 3, 68)
abbrev MX9_common : bq_M := (yX9_common, cX9_common, 10, (some .long), 0, 0)
abbrev MX9_flow : bq_M := (yX9_flow, cX9_flow, 13, (some .long), 1, 29)
abbrev MX9_splitOn : bq_M := (yX9_splitOn, cX9_splitOn, 6, (some .int), 3, 63)
abbrev MX9_price : bq_M := (yX9_price, cX9_price, 5, (some .int), 2, 45)
abbrev MX9_heard : bq_M := (yX9_heard, cX9_heard, 6, (some .int), 3, 63)
abbrev MX9_measured : bq_M := (yX9_measured, cX9_measured, 3, (some .int), 1, 22)
abbrev MX9_forget : bq_M := (yX9_forget, cX9_forget, 2, (some .int), 0, 0)
abbrev MX9_isSo : bq_M := (yX9_isSo, cX9_isSo, 4, (some .boolean), 2, 45)
abbrev MX9_splitFirst : bq_M := (yX9_splitFirst, cX9_splitFirst, 3, (some .int), 3, 68)
abbrev MX9_odds : bq_M := (yX9_odds, cX9_odds, 15, (some .int), 3, 63)
abbrev MX9_rate : bq_M := (yX9_rate, cX9_rate, 6, (some .int), 2, 42)
abbrev MX9_keep : bq_M := (yX9_keep, cX9_keep, 3, (some .int), 1, 22)
abbrev MX9_back : bq_M := (yX9_back, cX9_back, 3, (some .int), 1, 22)
abbrev MX9_count : bq_M := (yX9_count, cX9_count, 2, (some .int), 1, 22)
abbrev MX9_trace : bq_M := (yX9_trace, cX9_trace, 1, (some .long), 0, 0)
abbrev MJ11_isValidCodePoint_9a6ad : bq_M := (yJ11_isValidCodePoint_9a6ad, cJ11_isValidCodePoint_9a6ad, 2, (some .boolean), 0, 0)
abbrev MJ11_highSurrogate_5068e : bq_M := (yJ11_highSurrogate_5068e, cJ11_highSurrogate_5068e, 1, (some .char), 0, 0)
abbrev MJ11_lowSurrogate_5068e : bq_M := (yJ11_lowSurrogate_5068e, cJ11_lowSurrogate_5068e, 1, (some .char), 0, 0)
abbrev MJ6_bitCount_0f7a4 : bq_M := (yJ6_bitCount_0f7a4, cJ6_bitCount_0f7a4, 1, (some .int), 0, 0)
abbrev MJ9_floorMod_7cf53 : bq_M := (yJ9_floorMod_7cf53, cJ9_floorMod_7cf53, 3, (some .int), 0, 0)
abbrev MJ9_abs_067f4 : bq_M := (yJ9_abs_067f4, cJ9_abs_067f4, 2, (some .long), 0, 0)
abbrev MJ9_max_7cf53 : bq_M := (yJ9_max_7cf53, cJ9_max_7cf53, 2, (some .int), 0, 0)
abbrev MJ9_min_7cf53 : bq_M := (yJ9_min_7cf53, cJ9_min_7cf53, 2, (some .int), 0, 0)
abbrev MJ0_length_8abf5 : bq_M := (yJ0_length_8abf5, cJ0_length_8abf5, 1, (some .int), 1, 20)
abbrev MJ0_indexOf_0f7a4 : bq_M := (yJ0_indexOf_0f7a4, cJ0_indexOf_0f7a4, 2, (some .int), 6, 138)
abbrev MJ0_indexOf_7cf53 : bq_M := (yJ0_indexOf_7cf53, cJ0_indexOf_7cf53, 3, (some .int), 5, 116)
abbrev MJ0_coder_7d493 : bq_M := (yJ0_coder_7d493, cJ0_coder_7d493, 1, (some .byte), 0, 0)
abbrev MJ0_isLatin1_aae02 : bq_M := (yJ0_isLatin1_aae02, cJ0_isLatin1_aae02, 1, (some .boolean), 0, 0)
abbrev MJ0_checkBoundsBeginEnd_23922 : bq_M := (yJ0_checkBoundsBeginEnd_23922, cJ0_checkBoundsBeginEnd_23922, 3, none, 1, 23)
abbrev MJ1_canEncode_9a6ad : bq_M := (yJ1_canEncode_9a6ad, cJ1_canEncode_9a6ad, 1, (some .boolean), 0, 0)
abbrev MJ1_indexOf_4cfef : bq_M := (yJ1_indexOf_4cfef, cJ1_indexOf_4cfef, 4, (some .int), 1, 25)
abbrev MJ1_indexOfChar_4cfef : bq_M := (yJ1_indexOfChar_4cfef, cJ1_indexOfChar_4cfef, 6, (some .int), 0, 0)
abbrev MJ2_getChar_3b067 : bq_M := (yJ2_getChar_3b067, cJ2_getChar_3b067, 2, (some .char), 1, 20)
abbrev MJ2_length_9d52b : bq_M := (yJ2_length_9d52b, cJ2_length_9d52b, 1, (some .int), 0, 0)
abbrev MJ2_indexOf_4cfef : bq_M := (yJ2_indexOf_4cfef, cJ2_indexOf_4cfef, 4, (some .int), 4, 93)
abbrev MJ2_indexOfChar_4cfef : bq_M := (yJ2_indexOfChar_4cfef, cJ2_indexOfChar_4cfef, 4, (some .int), 3, 67)
abbrev MJ2_indexOfCharUnsafe_4cfef : bq_M := (yJ2_indexOfCharUnsafe_4cfef, cJ2_indexOfCharUnsafe_4cfef, 5, (some .int), 2, 41)
abbrev MJ2_indexOfSupplementary_4cfef : bq_M := (yJ2_indexOfSupplementary_4cfef, cJ2_indexOfSupplementary_4cfef, 7, (some .int), 3, 67)
abbrev MJ2_checkBoundsBeginEnd_d044e : bq_M := (yJ2_checkBoundsBeginEnd_d044e, cJ2_checkBoundsBeginEnd_d044e, 3, none, 2, 45)
abbrev MJ3_checkFromToIndex_8c36e : bq_M := (yJ3_checkFromToIndex_8c36e, cJ3_checkFromToIndex_8c36e, 4, (some .int), 0, 0)
set_option maxRecDepth 100000 in
theorem wi_L : Cond.initialized RL ∈ bq_tbl := bq_mem (List.mem_of_getElem? (i := 36) (by decide +kernel)) rfl
set_option maxRecDepth 100000 in
theorem wi_X8 : Cond.initialized RX8 ∈ bq_tbl := bq_mem (List.mem_of_getElem? (i := 37) (by decide +kernel)) rfl
set_option maxRecDepth 100000 in
theorem wi_X3 : Cond.initialized RX3 ∈ bq_tbl := bq_mem (List.mem_of_getElem? (i := 38) (by decide +kernel)) rfl
set_option maxRecDepth 100000 in
theorem wi_X7 : Cond.initialized RX7 ∈ bq_tbl := bq_mem (List.mem_of_getElem? (i := 39) (by decide +kernel)) rfl
set_option maxRecDepth 100000 in
theorem wi_X0 : Cond.initialized RX0 ∈ bq_tbl := bq_mem (List.mem_of_getElem? (i := 40) (by decide +kernel)) rfl
set_option maxRecDepth 100000 in
theorem wi_X5 : Cond.initialized RX5 ∈ bq_tbl := bq_mem (List.mem_of_getElem? (i := 41) (by decide +kernel)) rfl
set_option maxRecDepth 100000 in
theorem wi_X6 : Cond.initialized RX6 ∈ bq_tbl := bq_mem (List.mem_of_getElem? (i := 42) (by decide +kernel)) rfl
set_option maxRecDepth 100000 in
theorem wi_X4 : Cond.initialized RX4 ∈ bq_tbl := bq_mem (List.mem_of_getElem? (i := 43) (by decide +kernel)) rfl
set_option maxRecDepth 100000 in
theorem wi_X1 : Cond.initialized RX1 ∈ bq_tbl := bq_mem (List.mem_of_getElem? (i := 44) (by decide +kernel)) rfl
set_option maxRecDepth 100000 in
theorem wi_X2 : Cond.initialized RX2 ∈ bq_tbl := bq_mem (List.mem_of_getElem? (i := 45) (by decide +kernel)) rfl
set_option maxRecDepth 100000 in
theorem wi_X9 : Cond.initialized RX9 ∈ bq_tbl := bq_mem (List.mem_of_getElem? (i := 46) (by decide +kernel)) rfl
set_option maxRecDepth 100000 in
theorem wi_J9 : Cond.initialized RJ9 ∈ bq_tbl := bq_mem (List.mem_of_getElem? (i := 47) (by decide +kernel)) rfl
set_option maxRecDepth 100000 in
theorem wi_J0 : Cond.initialized RJ0 ∈ bq_tbl := bq_mem (List.mem_of_getElem? (i := 48) (by decide +kernel)) rfl
set_option maxRecDepth 100000 in
theorem wi_J1 : Cond.initialized RJ1 ∈ bq_tbl := bq_mem (List.mem_of_getElem? (i := 49) (by decide +kernel)) rfl
set_option maxRecDepth 100000 in
theorem wi_J2 : Cond.initialized RJ2 ∈ bq_tbl := bq_mem (List.mem_of_getElem? (i := 50) (by decide +kernel)) rfl
set_option maxRecDepth 100000 in
theorem wi_J3 : Cond.initialized RJ3 ∈ bq_tbl := bq_mem (List.mem_of_getElem? (i := 51) (by decide +kernel)) rfl
set_option maxRecDepth 100000 in
theorem wi_J11 : Cond.initialized RJ11 ∈ bq_tbl := bq_mem (List.mem_of_getElem? (i := 52) (by decide +kernel)) rfl
set_option maxRecDepth 100000 in
theorem wi_J6 : Cond.initialized RJ6 ∈ bq_tbl := bq_mem (List.mem_of_getElem? (i := 53) (by decide +kernel)) rfl
set_option maxRecDepth 100000 in
theorem wc_X8_init : Cond.code yX8_init cX8_init 2 none ∈ bq_tbl := bq_mem (List.mem_of_getElem? (i := 58) (by decide +kernel)) rfl
set_option maxRecDepth 100000 in
theorem wc_X3_init : Cond.code yX3_init cX3_init 1 none ∈ bq_tbl := bq_mem (List.mem_of_getElem? (i := 66) (by decide +kernel)) rfl
set_option maxRecDepth 100000 in
theorem wc_X7_init : Cond.code yX7_init cX7_init 1 none ∈ bq_tbl := bq_mem (List.mem_of_getElem? (i := 81) (by decide +kernel)) rfl
set_option maxRecDepth 100000 in
theorem wc_X0_init : Cond.code yX0_init cX0_init 1 none ∈ bq_tbl := bq_mem (List.mem_of_getElem? (i := 106) (by decide +kernel)) rfl
set_option maxRecDepth 100000 in
theorem wc_X5_init : Cond.code yX5_init cX5_init 1 none ∈ bq_tbl := bq_mem (List.mem_of_getElem? (i := 112) (by decide +kernel)) rfl
set_option maxRecDepth 100000 in
theorem wc_X0_tellNothing : Cond.code yX0_tellNothing cX0_tellNothing 2 none ∈ bq_tbl := bq_mem (List.mem_of_getElem? (i := 168) (by decide +kernel)) rfl
set_option maxRecDepth 100000 in
theorem wc_X5_empty : Cond.code yX5_empty cX5_empty 2 none ∈ bq_tbl := bq_mem (List.mem_of_getElem? (i := 174) (by decide +kernel)) rfl
set_option maxRecDepth 100000 in
theorem wc_X6_init : Cond.code yX6_init cX6_init 2 none ∈ bq_tbl := bq_mem (List.mem_of_getElem? (i := 195) (by decide +kernel)) rfl
set_option maxRecDepth 100000 in
theorem wc_X4_init : Cond.code yX4_init cX4_init 1 none ∈ bq_tbl := bq_mem (List.mem_of_getElem? (i := 215) (by decide +kernel)) rfl
set_option maxRecDepth 100000 in
theorem wc_X1_init : Cond.code yX1_init cX1_init 1 none ∈ bq_tbl := bq_mem (List.mem_of_getElem? (i := 233) (by decide +kernel)) rfl
set_option maxRecDepth 100000 in
theorem wc_X2_init : Cond.code yX2_init cX2_init 1 none ∈ bq_tbl := bq_mem (List.mem_of_getElem? (i := 246) (by decide +kernel)) rfl
set_option maxRecDepth 100000 in
theorem wc_X8_type : Cond.code yX8_type cX8_type 2 (some .int) ∈ bq_tbl := bq_mem (List.mem_of_getElem? (i := 297) (by decide +kernel)) rfl
set_option maxRecDepth 100000 in
theorem wc_X3_add : Cond.code yX3_add cX3_add 2 (some .boolean) ∈ bq_tbl := bq_mem (List.mem_of_getElem? (i := 301) (by decide +kernel)) rfl
set_option maxRecDepth 100000 in
theorem wc_X8_clear : Cond.code yX8_clear cX8_clear 2 (some .int) ∈ bq_tbl := bq_mem (List.mem_of_getElem? (i := 305) (by decide +kernel)) rfl
set_option maxRecDepth 100000 in
theorem wc_X8_cellar : Cond.code yX8_cellar cX8_cellar 3 (some .int) ∈ bq_tbl := bq_mem (List.mem_of_getElem? (i := 309) (by decide +kernel)) rfl
set_option maxRecDepth 100000 in
theorem wc_X7_read : Cond.code yX7_read cX7_read 6 (some .int) ∈ bq_tbl := bq_mem (List.mem_of_getElem? (i := 313) (by decide +kernel)) rfl
set_option maxRecDepth 100000 in
theorem wc_X7_step : Cond.code yX7_step cX7_step 3 none ∈ bq_tbl := bq_mem (List.mem_of_getElem? (i := 318) (by decide +kernel)) rfl
set_option maxRecDepth 100000 in
theorem wc_X3_at : Cond.code yX3_at cX3_at 2 (some .int) ∈ bq_tbl := bq_mem (List.mem_of_getElem? (i := 322) (by decide +kernel)) rfl
set_option maxRecDepth 100000 in
theorem wc_X7_isDigit : Cond.code yX7_isDigit cX7_isDigit 1 (some .boolean) ∈ bq_tbl := bq_mem (List.mem_of_getElem? (i := 325) (by decide +kernel)) rfl
set_option maxRecDepth 100000 in
theorem wc_X7_stepOverNumber : Cond.code yX7_stepOverNumber cX7_stepOverNumber 4 none ∈ bq_tbl := bq_mem (List.mem_of_getElem? (i := 329) (by decide +kernel)) rfl
set_option maxRecDepth 100000 in
theorem wc_J9_min_7cf53 : Cond.code yJ9_min_7cf53 cJ9_min_7cf53 2 (some .int) ∈ bq_tbl := bq_mem (List.mem_of_getElem? (i := 332) (by decide +kernel)) rfl
set_option maxRecDepth 100000 in
theorem wc_J0_indexOf_0f7a4 : Cond.code yJ0_indexOf_0f7a4 cJ0_indexOf_0f7a4 2 (some .int) ∈ bq_tbl := bq_mem (List.mem_of_getElem? (i := 337) (by decide +kernel)) rfl
set_option maxRecDepth 100000 in
theorem wc_J0_indexOf_7cf53 : Cond.code yJ0_indexOf_7cf53 cJ0_indexOf_7cf53 3 (some .int) ∈ bq_tbl := bq_mem (List.mem_of_getElem? (i := 341) (by decide +kernel)) rfl
set_option maxRecDepth 100000 in
theorem wc_J0_isLatin1_aae02 : Cond.code yJ0_isLatin1_aae02 cJ0_isLatin1_aae02 1 (some .boolean) ∈ bq_tbl := bq_mem (List.mem_of_getElem? (i := 345) (by decide +kernel)) rfl
set_option maxRecDepth 100000 in
theorem wc_J0_length_8abf5 : Cond.code yJ0_length_8abf5 cJ0_length_8abf5 1 (some .int) ∈ bq_tbl := bq_mem (List.mem_of_getElem? (i := 351) (by decide +kernel)) rfl
set_option maxRecDepth 100000 in
theorem wc_J0_coder_7d493 : Cond.code yJ0_coder_7d493 cJ0_coder_7d493 1 (some .byte) ∈ bq_tbl := bq_mem (List.mem_of_getElem? (i := 355) (by decide +kernel)) rfl
set_option maxRecDepth 100000 in
theorem wc_J1_indexOf_4cfef : Cond.code yJ1_indexOf_4cfef cJ1_indexOf_4cfef 4 (some .int) ∈ bq_tbl := bq_mem (List.mem_of_getElem? (i := 358) (by decide +kernel)) rfl
set_option maxRecDepth 100000 in
theorem wc_J1_canEncode_9a6ad : Cond.code yJ1_canEncode_9a6ad cJ1_canEncode_9a6ad 1 (some .boolean) ∈ bq_tbl := bq_mem (List.mem_of_getElem? (i := 361) (by decide +kernel)) rfl
set_option maxRecDepth 100000 in
theorem wc_J9_max_7cf53 : Cond.code yJ9_max_7cf53 cJ9_max_7cf53 2 (some .int) ∈ bq_tbl := bq_mem (List.mem_of_getElem? (i := 364) (by decide +kernel)) rfl
set_option maxRecDepth 100000 in
theorem wc_J1_indexOfChar_4cfef : Cond.code yJ1_indexOfChar_4cfef cJ1_indexOfChar_4cfef 6 (some .int) ∈ bq_tbl := bq_mem (List.mem_of_getElem? (i := 368) (by decide +kernel)) rfl
set_option maxRecDepth 100000 in
theorem wc_J2_indexOf_4cfef : Cond.code yJ2_indexOf_4cfef cJ2_indexOf_4cfef 4 (some .int) ∈ bq_tbl := bq_mem (List.mem_of_getElem? (i := 371) (by decide +kernel)) rfl
set_option maxRecDepth 100000 in
theorem wc_J2_indexOfChar_4cfef : Cond.code yJ2_indexOfChar_4cfef cJ2_indexOfChar_4cfef 4 (some .int) ∈ bq_tbl := bq_mem (List.mem_of_getElem? (i := 377) (by decide +kernel)) rfl
set_option maxRecDepth 100000 in
theorem wc_J2_checkBoundsBeginEnd_d044e : Cond.code yJ2_checkBoundsBeginEnd_d044e cJ2_checkBoundsBeginEnd_d044e 3 none ∈ bq_tbl := bq_mem (List.mem_of_getElem? (i := 380) (by decide +kernel)) rfl
set_option maxRecDepth 100000 in
theorem wc_J2_length_9d52b : Cond.code yJ2_length_9d52b cJ2_length_9d52b 1 (some .int) ∈ bq_tbl := bq_mem (List.mem_of_getElem? (i := 383) (by decide +kernel)) rfl
set_option maxRecDepth 100000 in
theorem wc_J0_checkBoundsBeginEnd_23922 : Cond.code yJ0_checkBoundsBeginEnd_23922 cJ0_checkBoundsBeginEnd_23922 3 none ∈ bq_tbl := bq_mem (List.mem_of_getElem? (i := 386) (by decide +kernel)) rfl
set_option maxRecDepth 100000 in
theorem wc_J3_checkFromToIndex_8c36e : Cond.code yJ3_checkFromToIndex_8c36e cJ3_checkFromToIndex_8c36e 4 (some .int) ∈ bq_tbl := bq_mem (List.mem_of_getElem? (i := 391) (by decide +kernel)) rfl
set_option maxRecDepth 100000 in
theorem wc_J2_indexOfCharUnsafe_4cfef : Cond.code yJ2_indexOfCharUnsafe_4cfef cJ2_indexOfCharUnsafe_4cfef 5 (some .int) ∈ bq_tbl := bq_mem (List.mem_of_getElem? (i := 394) (by decide +kernel)) rfl
set_option maxRecDepth 100000 in
theorem wc_J2_getChar_3b067 : Cond.code yJ2_getChar_3b067 cJ2_getChar_3b067 2 (some .char) ∈ bq_tbl := bq_mem (List.mem_of_getElem? (i := 397) (by decide +kernel)) rfl
set_option maxRecDepth 100000 in
theorem wc_J2_indexOfSupplementary_4cfef : Cond.code yJ2_indexOfSupplementary_4cfef cJ2_indexOfSupplementary_4cfef 7 (some .int) ∈ bq_tbl := bq_mem (List.mem_of_getElem? (i := 406) (by decide +kernel)) rfl
set_option maxRecDepth 100000 in
theorem wc_J11_isValidCodePoint_9a6ad : Cond.code yJ11_isValidCodePoint_9a6ad cJ11_isValidCodePoint_9a6ad 2 (some .boolean) ∈ bq_tbl := bq_mem (List.mem_of_getElem? (i := 409) (by decide +kernel)) rfl
set_option maxRecDepth 100000 in
theorem wc_J11_highSurrogate_5068e : Cond.code yJ11_highSurrogate_5068e cJ11_highSurrogate_5068e 1 (some .char) ∈ bq_tbl := bq_mem (List.mem_of_getElem? (i := 412) (by decide +kernel)) rfl
set_option maxRecDepth 100000 in
theorem wc_J11_lowSurrogate_5068e : Cond.code yJ11_lowSurrogate_5068e cJ11_lowSurrogate_5068e 1 (some .char) ∈ bq_tbl := bq_mem (List.mem_of_getElem? (i := 416) (by decide +kernel)) rfl
set_option maxRecDepth 100000 in
theorem wc_X7_isOneTooMany : Cond.code yX7_isOneTooMany cX7_isOneTooMany 3 (some .boolean) ∈ bq_tbl := bq_mem (List.mem_of_getElem? (i := 421) (by decide +kernel)) rfl
set_option maxRecDepth 100000 in
theorem wc_X8_bitOf : Cond.code yX8_bitOf cX8_bitOf 2 (some .int) ∈ bq_tbl := bq_mem (List.mem_of_getElem? (i := 424) (by decide +kernel)) rfl
set_option maxRecDepth 100000 in
theorem wc_X7_readItem : Cond.code yX7_readItem cX7_readItem 6 (some .boolean) ∈ bq_tbl := bq_mem (List.mem_of_getElem? (i := 428) (by decide +kernel)) rfl
set_option maxRecDepth 100000 in
theorem wc_X7_isWithin : Cond.code yX7_isWithin cX7_isWithin 2 (some .boolean) ∈ bq_tbl := bq_mem (List.mem_of_getElem? (i := 432) (by decide +kernel)) rfl
set_option maxRecDepth 100000 in
theorem wc_X0_tellBroom : Cond.code yX0_tellBroom cX0_tellBroom 4 none ∈ bq_tbl := bq_mem (List.mem_of_getElem? (i := 440) (by decide +kernel)) rfl
set_option maxRecDepth 100000 in
theorem wc_X5_place : Cond.code yX5_place cX5_place 5 none ∈ bq_tbl := bq_mem (List.mem_of_getElem? (i := 444) (by decide +kernel)) rfl
set_option maxRecDepth 100000 in
theorem wc_X0_tellSetting : Cond.code yX0_tellSetting cX0_tellSetting 3 none ∈ bq_tbl := bq_mem (List.mem_of_getElem? (i := 448) (by decide +kernel)) rfl
set_option maxRecDepth 100000 in
theorem wc_X0_begin : Cond.code yX0_begin cX0_begin 1 none ∈ bq_tbl := bq_mem (List.mem_of_getElem? (i := 452) (by decide +kernel)) rfl
set_option maxRecDepth 100000 in
theorem wc_X0_heightOf : Cond.code yX0_heightOf cX0_heightOf 3 (some .int) ∈ bq_tbl := bq_mem (List.mem_of_getElem? (i := 456) (by decide +kernel)) rfl
set_option maxRecDepth 100000 in
theorem wc_X0_copyFrom : Cond.code yX0_copyFrom cX0_copyFrom 3 none ∈ bq_tbl := bq_mem (List.mem_of_getElem? (i := 460) (by decide +kernel)) rfl
set_option maxRecDepth 100000 in
theorem wc_X5_copyFrom : Cond.code yX5_copyFrom cX5_copyFrom 3 none ∈ bq_tbl := bq_mem (List.mem_of_getElem? (i := 464) (by decide +kernel)) rfl
set_option maxRecDepth 100000 in
theorem wc_X8_broom : Cond.code yX8_broom cX8_broom 3 (some .int) ∈ bq_tbl := bq_mem (List.mem_of_getElem? (i := 470) (by decide +kernel)) rfl
set_option maxRecDepth 100000 in
theorem wc_X8_now : Cond.code yX8_now cX8_now 2 (some .int) ∈ bq_tbl := bq_mem (List.mem_of_getElem? (i := 475) (by decide +kernel)) rfl
set_option maxRecDepth 100000 in
theorem wc_X8_minute : Cond.code yX8_minute cX8_minute 2 (some .int) ∈ bq_tbl := bq_mem (List.mem_of_getElem? (i := 480) (by decide +kernel)) rfl
set_option maxRecDepth 100000 in
theorem wc_X6_remember : Cond.code yX6_remember cX6_remember 3 none ∈ bq_tbl := bq_mem (List.mem_of_getElem? (i := 484) (by decide +kernel)) rfl
set_option maxRecDepth 100000 in
theorem wc_J9_floorMod_7cf53 : Cond.code yJ9_floorMod_7cf53 cJ9_floorMod_7cf53 3 (some .int) ∈ bq_tbl := bq_mem (List.mem_of_getElem? (i := 487) (by decide +kernel)) rfl
set_option maxRecDepth 100000 in
theorem wc_X0_stairWidth : Cond.code yX0_stairWidth cX0_stairWidth 1 (some .int) ∈ bq_tbl := bq_mem (List.mem_of_getElem? (i := 493) (by decide +kernel)) rfl
set_option maxRecDepth 100000 in
theorem wc_X0_drainCups : Cond.code yX0_drainCups cX0_drainCups 1 (some .int) ∈ bq_tbl := bq_mem (List.mem_of_getElem? (i := 497) (by decide +kernel)) rfl
set_option maxRecDepth 100000 in
theorem wc_X5_pass : Cond.code yX5_pass cX5_pass 5 none ∈ bq_tbl := bq_mem (List.mem_of_getElem? (i := 501) (by decide +kernel)) rfl
set_option maxRecDepth 100000 in
theorem wc_X5_isThere : Cond.code yX5_isThere cX5_isThere 2 (some .boolean) ∈ bq_tbl := bq_mem (List.mem_of_getElem? (i := 505) (by decide +kernel)) rfl
set_option maxRecDepth 100000 in
theorem wc_X5_comes : Cond.code yX5_comes cX5_comes 2 none ∈ bq_tbl := bq_mem (List.mem_of_getElem? (i := 510) (by decide +kernel)) rfl
set_option maxRecDepth 100000 in
theorem wc_X5_loadOf : Cond.code yX5_loadOf cX5_loadOf 2 (some .int) ∈ bq_tbl := bq_mem (List.mem_of_getElem? (i := 514) (by decide +kernel)) rfl
set_option maxRecDepth 100000 in
theorem wc_X8_splits : Cond.code yX8_splits cX8_splits 2 (some .int) ∈ bq_tbl := bq_mem (List.mem_of_getElem? (i := 522) (by decide +kernel)) rfl
set_option maxRecDepth 100000 in
theorem wc_X5_canSplit : Cond.code yX5_canSplit cX5_canSplit 2 (some .boolean) ∈ bq_tbl := bq_mem (List.mem_of_getElem? (i := 527) (by decide +kernel)) rfl
set_option maxRecDepth 100000 in
theorem wc_X5_firstFree : Cond.code yX5_firstFree cX5_firstFree 2 (some .int) ∈ bq_tbl := bq_mem (List.mem_of_getElem? (i := 531) (by decide +kernel)) rfl
set_option maxRecDepth 100000 in
theorem wc_X5_split : Cond.code yX5_split cX5_split 3 (some .int) ∈ bq_tbl := bq_mem (List.mem_of_getElem? (i := 535) (by decide +kernel)) rfl
set_option maxRecDepth 100000 in
theorem wc_X5_alike : Cond.code yX5_alike cX5_alike 3 (some .int) ∈ bq_tbl := bq_mem (List.mem_of_getElem? (i := 540) (by decide +kernel)) rfl
set_option maxRecDepth 100000 in
theorem wc_X8_teaches : Cond.code yX8_teaches cX8_teaches 2 (some .int) ∈ bq_tbl := bq_mem (List.mem_of_getElem? (i := 544) (by decide +kernel)) rfl
set_option maxRecDepth 100000 in
theorem wc_X8_bores : Cond.code yX8_bores cX8_bores 2 (some .int) ∈ bq_tbl := bq_mem (List.mem_of_getElem? (i := 548) (by decide +kernel)) rfl
set_option maxRecDepth 100000 in
theorem wc_X8_burns : Cond.code yX8_burns cX8_burns 2 (some .int) ∈ bq_tbl := bq_mem (List.mem_of_getElem? (i := 552) (by decide +kernel)) rfl
set_option maxRecDepth 100000 in
theorem wc_X8_takeAway : Cond.code yX8_takeAway cX8_takeAway 2 (some .int) ∈ bq_tbl := bq_mem (List.mem_of_getElem? (i := 556) (by decide +kernel)) rfl
set_option maxRecDepth 100000 in
theorem wc_J6_bitCount_0f7a4 : Cond.code yJ6_bitCount_0f7a4 cJ6_bitCount_0f7a4 1 (some .int) ∈ bq_tbl := bq_mem (List.mem_of_getElem? (i := 559) (by decide +kernel)) rfl
set_option maxRecDepth 100000 in
theorem wc_X8_halts : Cond.code yX8_halts cX8_halts 2 (some .int) ∈ bq_tbl := bq_mem (List.mem_of_getElem? (i := 566) (by decide +kernel)) rfl
set_option maxRecDepth 100000 in
theorem wc_X8_undo : Cond.code yX8_undo cX8_undo 1 (some .int) ∈ bq_tbl := bq_mem (List.mem_of_getElem? (i := 570) (by decide +kernel)) rfl
set_option maxRecDepth 100000 in
theorem wc_X6_bringBack : Cond.code yX6_bringBack cX6_bringBack 3 none ∈ bq_tbl := bq_mem (List.mem_of_getElem? (i := 574) (by decide +kernel)) rfl
set_option maxRecDepth 100000 in
theorem wc_X8_stands : Cond.code yX8_stands cX8_stands 3 (some .int) ∈ bq_tbl := bq_mem (List.mem_of_getElem? (i := 578) (by decide +kernel)) rfl
set_option maxRecDepth 100000 in
theorem wc_X8_lookAhead : Cond.code yX8_lookAhead cX8_lookAhead 1 none ∈ bq_tbl := bq_mem (List.mem_of_getElem? (i := 582) (by decide +kernel)) rfl
set_option maxRecDepth 100000 in
theorem wc_X8_above : Cond.code yX8_above cX8_above 2 (some .int) ∈ bq_tbl := bq_mem (List.mem_of_getElem? (i := 586) (by decide +kernel)) rfl
set_option maxRecDepth 100000 in
theorem wc_X0_isAboveMark : Cond.code yX0_isAboveMark cX0_isAboveMark 2 (some .boolean) ∈ bq_tbl := bq_mem (List.mem_of_getElem? (i := 590) (by decide +kernel)) rfl
set_option maxRecDepth 100000 in
theorem wc_X8_most : Cond.code yX8_most cX8_most 4 (some .int) ∈ bq_tbl := bq_mem (List.mem_of_getElem? (i := 594) (by decide +kernel)) rfl
set_option maxRecDepth 100000 in
theorem wc_X8_teach : Cond.code yX8_teach cX8_teach 2 (some .int) ∈ bq_tbl := bq_mem (List.mem_of_getElem? (i := 598) (by decide +kernel)) rfl
set_option maxRecDepth 100000 in
theorem wc_X8_fewest : Cond.code yX8_fewest cX8_fewest 8 (some .int) ∈ bq_tbl := bq_mem (List.mem_of_getElem? (i := 602) (by decide +kernel)) rfl
set_option maxRecDepth 100000 in
theorem wc_X8_isPlanned : Cond.code yX8_isPlanned cX8_isPlanned 1 (some .boolean) ∈ bq_tbl := bq_mem (List.mem_of_getElem? (i := 605) (by decide +kernel)) rfl
set_option maxRecDepth 100000 in
theorem wc_X8_helps : Cond.code yX8_helps cX8_helps 4 (some .boolean) ∈ bq_tbl := bq_mem (List.mem_of_getElem? (i := 609) (by decide +kernel)) rfl
set_option maxRecDepth 100000 in
theorem wc_X8_staysAtMark : Cond.code yX8_staysAtMark cX8_staysAtMark 6 (some .boolean) ∈ bq_tbl := bq_mem (List.mem_of_getElem? (i := 613) (by decide +kernel)) rfl
set_option maxRecDepth 100000 in
theorem wc_X8_burn : Cond.code yX8_burn cX8_burn 2 (some .int) ∈ bq_tbl := bq_mem (List.mem_of_getElem? (i := 617) (by decide +kernel)) rfl
set_option maxRecDepth 100000 in
theorem wc_X8_stair : Cond.code yX8_stair cX8_stair 3 (some .int) ∈ bq_tbl := bq_mem (List.mem_of_getElem? (i := 621) (by decide +kernel)) rfl
set_option maxRecDepth 100000 in
theorem wc_X8_drain : Cond.code yX8_drain cX8_drain 3 (some .int) ∈ bq_tbl := bq_mem (List.mem_of_getElem? (i := 625) (by decide +kernel)) rfl
set_option maxRecDepth 100000 in
theorem wc_X8_flow : Cond.code yX8_flow cX8_flow 4 (some .long) ∈ bq_tbl := bq_mem (List.mem_of_getElem? (i := 629) (by decide +kernel)) rfl
set_option maxRecDepth 100000 in
theorem wc_X1_become : Cond.code yX1_become cX1_become 7 none ∈ bq_tbl := bq_mem (List.mem_of_getElem? (i := 634) (by decide +kernel)) rfl
set_option maxRecDepth 100000 in
theorem wc_J9_abs_067f4 : Cond.code yJ9_abs_067f4 cJ9_abs_067f4 2 (some .long) ∈ bq_tbl := bq_mem (List.mem_of_getElem? (i := 637) (by decide +kernel)) rfl
set_option maxRecDepth 100000 in
theorem wc_X1_commonDivisor : Cond.code yX1_commonDivisor cX1_commonDivisor 11 (some .long) ∈ bq_tbl := bq_mem (List.mem_of_getElem? (i := 640) (by decide +kernel)) rfl
set_option maxRecDepth 100000 in
theorem wc_X1_plus : Cond.code yX1_plus cX1_plus 5 none ∈ bq_tbl := bq_mem (List.mem_of_getElem? (i := 645) (by decide +kernel)) rfl
set_option maxRecDepth 100000 in
theorem wc_X1_part : Cond.code yX1_part cX1_part 2 (some .long) ∈ bq_tbl := bq_mem (List.mem_of_getElem? (i := 650) (by decide +kernel)) rfl
set_option maxRecDepth 100000 in
theorem wc_X8_splitOn : Cond.code yX8_splitOn cX8_splitOn 6 (some .int) ∈ bq_tbl := bq_mem (List.mem_of_getElem? (i := 654) (by decide +kernel)) rfl
set_option maxRecDepth 100000 in
theorem wc_X8_price : Cond.code yX8_price cX8_price 5 (some .int) ∈ bq_tbl := bq_mem (List.mem_of_getElem? (i := 658) (by decide +kernel)) rfl
set_option maxRecDepth 100000 in
theorem wc_X8_heard : Cond.code yX8_heard cX8_heard 4 (some .int) ∈ bq_tbl := bq_mem (List.mem_of_getElem? (i := 662) (by decide +kernel)) rfl
set_option maxRecDepth 100000 in
theorem wc_X8_measured : Cond.code yX8_measured cX8_measured 3 (some .int) ∈ bq_tbl := bq_mem (List.mem_of_getElem? (i := 666) (by decide +kernel)) rfl
set_option maxRecDepth 100000 in
theorem wc_X4_add : Cond.code yX4_add cX4_add 3 (some .boolean) ∈ bq_tbl := bq_mem (List.mem_of_getElem? (i := 671) (by decide +kernel)) rfl
set_option maxRecDepth 100000 in
theorem wc_X8_forget : Cond.code yX8_forget cX8_forget 2 (some .int) ∈ bq_tbl := bq_mem (List.mem_of_getElem? (i := 675) (by decide +kernel)) rfl
set_option maxRecDepth 100000 in
theorem wc_X8_splitFirst : Cond.code yX8_splitFirst cX8_splitFirst 3 (some .int) ∈ bq_tbl := bq_mem (List.mem_of_getElem? (i := 679) (by decide +kernel)) rfl
set_option maxRecDepth 100000 in
theorem wc_X8_isAsMeasured : Cond.code yX8_isAsMeasured cX8_isAsMeasured 3 (some .boolean) ∈ bq_tbl := bq_mem (List.mem_of_getElem? (i := 683) (by decide +kernel)) rfl
set_option maxRecDepth 100000 in
theorem wc_X4_allowWater : Cond.code yX4_allowWater cX4_allowWater 4 (some .boolean) ∈ bq_tbl := bq_mem (List.mem_of_getElem? (i := 687) (by decide +kernel)) rfl
set_option maxRecDepth 100000 in
theorem wc_X8_odds : Cond.code yX8_odds cX8_odds 12 (some .int) ∈ bq_tbl := bq_mem (List.mem_of_getElem? (i := 691) (by decide +kernel)) rfl
set_option maxRecDepth 100000 in
theorem wc_X5_comings : Cond.code yX5_comings cX5_comings 4 (some .int) ∈ bq_tbl := bq_mem (List.mem_of_getElem? (i := 695) (by decide +kernel)) rfl
set_option maxRecDepth 100000 in
theorem wc_X8_countWays : Cond.code yX8_countWays cX8_countWays 7 (some .long) ∈ bq_tbl := bq_mem (List.mem_of_getElem? (i := 700) (by decide +kernel)) rfl
set_option maxRecDepth 100000 in
theorem wc_X8_rate : Cond.code yX8_rate cX8_rate 4 (some .int) ∈ bq_tbl := bq_mem (List.mem_of_getElem? (i := 705) (by decide +kernel)) rfl
set_option maxRecDepth 100000 in
theorem wc_X2_asBroom : Cond.code yX2_asBroom cX2_asBroom 2 (some .int) ∈ bq_tbl := bq_mem (List.mem_of_getElem? (i := 709) (by decide +kernel)) rfl
set_option maxRecDepth 100000 in
theorem wc_X2_asWet : Cond.code yX2_asWet cX2_asWet 3 (some .int) ∈ bq_tbl := bq_mem (List.mem_of_getElem? (i := 713) (by decide +kernel)) rfl
set_option maxRecDepth 100000 in
theorem wc_X2_asHalf : Cond.code yX2_asHalf cX2_asHalf 3 (some .int) ∈ bq_tbl := bq_mem (List.mem_of_getElem? (i := 719) (by decide +kernel)) rfl
set_option maxRecDepth 100000 in
theorem wc_X2_asBored : Cond.code yX2_asBored cX2_asBored 3 (some .int) ∈ bq_tbl := bq_mem (List.mem_of_getElem? (i := 724) (by decide +kernel)) rfl
set_option maxRecDepth 100000 in
theorem wc_X2_asBurning : Cond.code yX2_asBurning cX2_asBurning 4 (some .int) ∈ bq_tbl := bq_mem (List.mem_of_getElem? (i := 730) (by decide +kernel)) rfl
set_option maxRecDepth 100000 in
theorem wc_X2_asTeaching : Cond.code yX2_asTeaching cX2_asTeaching 3 (some .int) ∈ bq_tbl := bq_mem (List.mem_of_getElem? (i := 736) (by decide +kernel)) rfl
set_option maxRecDepth 100000 in
theorem wc_X8_keep : Cond.code yX8_keep cX8_keep 3 (some .int) ∈ bq_tbl := bq_mem (List.mem_of_getElem? (i := 741) (by decide +kernel)) rfl
set_option maxRecDepth 100000 in
theorem wc_X8_back : Cond.code yX8_back cX8_back 3 (some .int) ∈ bq_tbl := bq_mem (List.mem_of_getElem? (i := 745) (by decide +kernel)) rfl
set_option maxRecDepth 100000 in
theorem wc_X8_count : Cond.code yX8_count cX8_count 2 (some .int) ∈ bq_tbl := bq_mem (List.mem_of_getElem? (i := 749) (by decide +kernel)) rfl
set_option maxRecDepth 100000 in
theorem wc_X8_trace : Cond.code yX8_trace cX8_trace 1 (some .long) ∈ bq_tbl := bq_mem (List.mem_of_getElem? (i := 753) (by decide +kernel)) rfl
set_option maxRecDepth 100000 in
theorem wc_X9_init : Cond.code yX9_init cX9_init 1 none ∈ bq_tbl := bq_mem (List.mem_of_getElem? (i := 758) (by decide +kernel)) rfl
set_option maxRecDepth 100000 in
theorem wc_X9_reads : Cond.code yX9_reads cX9_reads 2 (some .boolean) ∈ bq_tbl := bq_mem (List.mem_of_getElem? (i := 763) (by decide +kernel)) rfl
set_option maxRecDepth 100000 in
theorem wc_X9_token : Cond.code yX9_token cX9_token 2 none ∈ bq_tbl := bq_mem (List.mem_of_getElem? (i := 767) (by decide +kernel)) rfl
set_option maxRecDepth 100000 in
theorem wc_X9_letterAt : Cond.code yX9_letterAt cX9_letterAt 2 (some .int) ∈ bq_tbl := bq_mem (List.mem_of_getElem? (i := 771) (by decide +kernel)) rfl
set_option maxRecDepth 100000 in
theorem wc_X9_itemOf : Cond.code yX9_itemOf cX9_itemOf 1 (some .int) ∈ bq_tbl := bq_mem (List.mem_of_getElem? (i := 774) (by decide +kernel)) rfl
set_option maxRecDepth 100000 in
theorem wc_X9_isDigit : Cond.code yX9_isDigit cX9_isDigit 1 (some .boolean) ∈ bq_tbl := bq_mem (List.mem_of_getElem? (i := 777) (by decide +kernel)) rfl
set_option maxRecDepth 100000 in
theorem wc_X9_in : Cond.code yX9_in cX9_in 3 (some .boolean) ∈ bq_tbl := bq_mem (List.mem_of_getElem? (i := 780) (by decide +kernel)) rfl
set_option maxRecDepth 100000 in
theorem wc_X9_readsItem : Cond.code yX9_readsItem cX9_readsItem 4 (some .boolean) ∈ bq_tbl := bq_mem (List.mem_of_getElem? (i := 784) (by decide +kernel)) rfl
set_option maxRecDepth 100000 in
theorem wc_X9_number : Cond.code yX9_number cX9_number 4 (some .boolean) ∈ bq_tbl := bq_mem (List.mem_of_getElem? (i := 788) (by decide +kernel)) rfl
set_option maxRecDepth 100000 in
theorem wc_X9_tells : Cond.code yX9_tells cX9_tells 2 none ∈ bq_tbl := bq_mem (List.mem_of_getElem? (i := 792) (by decide +kernel)) rfl
set_option maxRecDepth 100000 in
theorem wc_X9_begins : Cond.code yX9_begins cX9_begins 2 none ∈ bq_tbl := bq_mem (List.mem_of_getElem? (i := 796) (by decide +kernel)) rfl
set_option maxRecDepth 100000 in
theorem wc_X9_high : Cond.code yX9_high cX9_high 1 (some .int) ∈ bq_tbl := bq_mem (List.mem_of_getElem? (i := 800) (by decide +kernel)) rfl
set_option maxRecDepth 100000 in
theorem wc_X9_type : Cond.code yX9_type cX9_type 2 (some .int) ∈ bq_tbl := bq_mem (List.mem_of_getElem? (i := 865) (by decide +kernel)) rfl
set_option maxRecDepth 100000 in
theorem wc_X9_clear : Cond.code yX9_clear cX9_clear 2 (some .int) ∈ bq_tbl := bq_mem (List.mem_of_getElem? (i := 869) (by decide +kernel)) rfl
set_option maxRecDepth 100000 in
theorem wc_X9_cellar : Cond.code yX9_cellar cX9_cellar 1 (some .int) ∈ bq_tbl := bq_mem (List.mem_of_getElem? (i := 873) (by decide +kernel)) rfl
set_option maxRecDepth 100000 in
theorem wc_X9_broom : Cond.code yX9_broom cX9_broom 3 (some .int) ∈ bq_tbl := bq_mem (List.mem_of_getElem? (i := 877) (by decide +kernel)) rfl
set_option maxRecDepth 100000 in
theorem wc_X9_isNumber : Cond.code yX9_isNumber cX9_isNumber 1 (some .boolean) ∈ bq_tbl := bq_mem (List.mem_of_getElem? (i := 880) (by decide +kernel)) rfl
set_option maxRecDepth 100000 in
theorem wc_X9_now : Cond.code yX9_now cX9_now 2 (some .int) ∈ bq_tbl := bq_mem (List.mem_of_getElem? (i := 884) (by decide +kernel)) rfl
set_option maxRecDepth 100000 in
theorem wc_X9_there : Cond.code yX9_there cX9_there 3 (some .int) ∈ bq_tbl := bq_mem (List.mem_of_getElem? (i := 888) (by decide +kernel)) rfl
set_option maxRecDepth 100000 in
theorem wc_X9_minute : Cond.code yX9_minute cX9_minute 1 (some .int) ∈ bq_tbl := bq_mem (List.mem_of_getElem? (i := 892) (by decide +kernel)) rfl
set_option maxRecDepth 100000 in
theorem wc_X9_keeps : Cond.code yX9_keeps cX9_keeps 2 none ∈ bq_tbl := bq_mem (List.mem_of_getElem? (i := 896) (by decide +kernel)) rfl
set_option maxRecDepth 100000 in
theorem wc_X9_asTold : Cond.code yX9_asTold cX9_asTold 1 none ∈ bq_tbl := bq_mem (List.mem_of_getElem? (i := 900) (by decide +kernel)) rfl
set_option maxRecDepth 100000 in
theorem wc_X9_goes : Cond.code yX9_goes cX9_goes 5 (some .int) ∈ bq_tbl := bq_mem (List.mem_of_getElem? (i := 904) (by decide +kernel)) rfl
set_option maxRecDepth 100000 in
theorem wc_X9_carries : Cond.code yX9_carries cX9_carries 2 (some .int) ∈ bq_tbl := bq_mem (List.mem_of_getElem? (i := 908) (by decide +kernel)) rfl
set_option maxRecDepth 100000 in
theorem wc_X9_splits : Cond.code yX9_splits cX9_splits 2 (some .int) ∈ bq_tbl := bq_mem (List.mem_of_getElem? (i := 913) (by decide +kernel)) rfl
set_option maxRecDepth 100000 in
theorem wc_X9_isThere : Cond.code yX9_isThere cX9_isThere 2 (some .boolean) ∈ bq_tbl := bq_mem (List.mem_of_getElem? (i := 917) (by decide +kernel)) rfl
set_option maxRecDepth 100000 in
theorem wc_X9_canSplit : Cond.code yX9_canSplit cX9_canSplit 2 (some .boolean) ∈ bq_tbl := bq_mem (List.mem_of_getElem? (i := 921) (by decide +kernel)) rfl
set_option maxRecDepth 100000 in
theorem wc_X9_free : Cond.code yX9_free cX9_free 3 (some .int) ∈ bq_tbl := bq_mem (List.mem_of_getElem? (i := 925) (by decide +kernel)) rfl
set_option maxRecDepth 100000 in
theorem wc_X9_splitsNow : Cond.code yX9_splitsNow cX9_splitsNow 4 (some .int) ∈ bq_tbl := bq_mem (List.mem_of_getElem? (i := 929) (by decide +kernel)) rfl
set_option maxRecDepth 100000 in
theorem wc_X9_teaches : Cond.code yX9_teaches cX9_teaches 2 (some .int) ∈ bq_tbl := bq_mem (List.mem_of_getElem? (i := 933) (by decide +kernel)) rfl
set_option maxRecDepth 100000 in
theorem wc_X9_bores : Cond.code yX9_bores cX9_bores 2 (some .int) ∈ bq_tbl := bq_mem (List.mem_of_getElem? (i := 937) (by decide +kernel)) rfl
set_option maxRecDepth 100000 in
theorem wc_X9_burns : Cond.code yX9_burns cX9_burns 2 (some .int) ∈ bq_tbl := bq_mem (List.mem_of_getElem? (i := 941) (by decide +kernel)) rfl
set_option maxRecDepth 100000 in
theorem wc_X9_ones : Cond.code yX9_ones cX9_ones 3 (some .int) ∈ bq_tbl := bq_mem (List.mem_of_getElem? (i := 944) (by decide +kernel)) rfl
set_option maxRecDepth 100000 in
theorem wc_X9_halts : Cond.code yX9_halts cX9_halts 2 (some .int) ∈ bq_tbl := bq_mem (List.mem_of_getElem? (i := 948) (by decide +kernel)) rfl
set_option maxRecDepth 100000 in
theorem wc_X9_undo : Cond.code yX9_undo cX9_undo 2 (some .int) ∈ bq_tbl := bq_mem (List.mem_of_getElem? (i := 952) (by decide +kernel)) rfl
set_option maxRecDepth 100000 in
theorem wc_X9_stands : Cond.code yX9_stands cX9_stands 3 (some .int) ∈ bq_tbl := bq_mem (List.mem_of_getElem? (i := 956) (by decide +kernel)) rfl
set_option maxRecDepth 100000 in
theorem wc_X9_holds : Cond.code yX9_holds cX9_holds 2 none ∈ bq_tbl := bq_mem (List.mem_of_getElem? (i := 960) (by decide +kernel)) rfl
set_option maxRecDepth 100000 in
theorem wc_X9_lets : Cond.code yX9_lets cX9_lets 2 none ∈ bq_tbl := bq_mem (List.mem_of_getElem? (i := 964) (by decide +kernel)) rfl
set_option maxRecDepth 100000 in
theorem wc_X9_above : Cond.code yX9_above cX9_above 3 (some .int) ∈ bq_tbl := bq_mem (List.mem_of_getElem? (i := 968) (by decide +kernel)) rfl
set_option maxRecDepth 100000 in
theorem wc_X9_most : Cond.code yX9_most cX9_most 3 (some .int) ∈ bq_tbl := bq_mem (List.mem_of_getElem? (i := 972) (by decide +kernel)) rfl
set_option maxRecDepth 100000 in
theorem wc_X9_highest : Cond.code yX9_highest cX9_highest 4 (some .int) ∈ bq_tbl := bq_mem (List.mem_of_getElem? (i := 976) (by decide +kernel)) rfl
set_option maxRecDepth 100000 in
theorem wc_X9_teach : Cond.code yX9_teach cX9_teach 2 (some .int) ∈ bq_tbl := bq_mem (List.mem_of_getElem? (i := 980) (by decide +kernel)) rfl
set_option maxRecDepth 100000 in
theorem wc_X9_fewest : Cond.code yX9_fewest cX9_fewest 8 (some .int) ∈ bq_tbl := bq_mem (List.mem_of_getElem? (i := 984) (by decide +kernel)) rfl
set_option maxRecDepth 100000 in
theorem wc_X9_burn : Cond.code yX9_burn cX9_burn 2 (some .int) ∈ bq_tbl := bq_mem (List.mem_of_getElem? (i := 988) (by decide +kernel)) rfl
set_option maxRecDepth 100000 in
theorem wc_X9_stair : Cond.code yX9_stair cX9_stair 4 (some .int) ∈ bq_tbl := bq_mem (List.mem_of_getElem? (i := 992) (by decide +kernel)) rfl
set_option maxRecDepth 100000 in
theorem wc_X9_drain : Cond.code yX9_drain cX9_drain 4 (some .int) ∈ bq_tbl := bq_mem (List.mem_of_getElem? (i := 996) (by decide +kernel)) rfl
set_option maxRecDepth 100000 in
theorem wc_X9_flow : Cond.code yX9_flow cX9_flow 13 (some .long) ∈ bq_tbl := bq_mem (List.mem_of_getElem? (i := 1000) (by decide +kernel)) rfl
set_option maxRecDepth 100000 in
theorem wc_X9_common : Cond.code yX9_common cX9_common 10 (some .long) ∈ bq_tbl := bq_mem (List.mem_of_getElem? (i := 1004) (by decide +kernel)) rfl
set_option maxRecDepth 100000 in
theorem wc_X9_splitOn : Cond.code yX9_splitOn cX9_splitOn 6 (some .int) ∈ bq_tbl := bq_mem (List.mem_of_getElem? (i := 1008) (by decide +kernel)) rfl
set_option maxRecDepth 100000 in
theorem wc_X9_price : Cond.code yX9_price cX9_price 5 (some .int) ∈ bq_tbl := bq_mem (List.mem_of_getElem? (i := 1012) (by decide +kernel)) rfl
set_option maxRecDepth 100000 in
theorem wc_X9_heard : Cond.code yX9_heard cX9_heard 6 (some .int) ∈ bq_tbl := bq_mem (List.mem_of_getElem? (i := 1016) (by decide +kernel)) rfl
set_option maxRecDepth 100000 in
theorem wc_X9_measured : Cond.code yX9_measured cX9_measured 3 (some .int) ∈ bq_tbl := bq_mem (List.mem_of_getElem? (i := 1020) (by decide +kernel)) rfl
set_option maxRecDepth 100000 in
theorem wc_X9_forget : Cond.code yX9_forget cX9_forget 2 (some .int) ∈ bq_tbl := bq_mem (List.mem_of_getElem? (i := 1024) (by decide +kernel)) rfl
set_option maxRecDepth 100000 in
theorem wc_X9_splitFirst : Cond.code yX9_splitFirst cX9_splitFirst 3 (some .int) ∈ bq_tbl := bq_mem (List.mem_of_getElem? (i := 1028) (by decide +kernel)) rfl
set_option maxRecDepth 100000 in
theorem wc_X9_isSo : Cond.code yX9_isSo cX9_isSo 4 (some .boolean) ∈ bq_tbl := bq_mem (List.mem_of_getElem? (i := 1032) (by decide +kernel)) rfl
set_option maxRecDepth 100000 in
theorem wc_X9_odds : Cond.code yX9_odds cX9_odds 15 (some .int) ∈ bq_tbl := bq_mem (List.mem_of_getElem? (i := 1036) (by decide +kernel)) rfl
set_option maxRecDepth 100000 in
theorem wc_X9_rate : Cond.code yX9_rate cX9_rate 6 (some .int) ∈ bq_tbl := bq_mem (List.mem_of_getElem? (i := 1041) (by decide +kernel)) rfl
set_option maxRecDepth 100000 in
theorem wc_X9_keep : Cond.code yX9_keep cX9_keep 3 (some .int) ∈ bq_tbl := bq_mem (List.mem_of_getElem? (i := 1050) (by decide +kernel)) rfl
set_option maxRecDepth 100000 in
theorem wc_X9_back : Cond.code yX9_back cX9_back 3 (some .int) ∈ bq_tbl := bq_mem (List.mem_of_getElem? (i := 1054) (by decide +kernel)) rfl
set_option maxRecDepth 100000 in
theorem wc_X9_count : Cond.code yX9_count cX9_count 2 (some .int) ∈ bq_tbl := bq_mem (List.mem_of_getElem? (i := 1058) (by decide +kernel)) rfl
set_option maxRecDepth 100000 in
theorem wc_X9_trace : Cond.code yX9_trace cX9_trace 1 (some .long) ∈ bq_tbl := bq_mem (List.mem_of_getElem? (i := 1062) (by decide +kernel)) rfl
set_option maxRecDepth 100000 in
theorem wn_X8_init : Cond.instanceMethod yX8_init ∈ bq_tbl := bq_mem (List.mem_of_getElem? (i := 57) (by decide +kernel)) rfl
set_option maxRecDepth 100000 in
theorem wn_X3_init : Cond.instanceMethod yX3_init ∈ bq_tbl := bq_mem (List.mem_of_getElem? (i := 65) (by decide +kernel)) rfl
set_option maxRecDepth 100000 in
theorem wn_X7_init : Cond.instanceMethod yX7_init ∈ bq_tbl := bq_mem (List.mem_of_getElem? (i := 80) (by decide +kernel)) rfl
set_option maxRecDepth 100000 in
theorem wn_X0_init : Cond.instanceMethod yX0_init ∈ bq_tbl := bq_mem (List.mem_of_getElem? (i := 105) (by decide +kernel)) rfl
set_option maxRecDepth 100000 in
theorem wn_X5_init : Cond.instanceMethod yX5_init ∈ bq_tbl := bq_mem (List.mem_of_getElem? (i := 111) (by decide +kernel)) rfl
set_option maxRecDepth 100000 in
theorem wn_X0_tellNothing : Cond.instanceMethod yX0_tellNothing ∈ bq_tbl := bq_mem (List.mem_of_getElem? (i := 166) (by decide +kernel)) rfl
set_option maxRecDepth 100000 in
theorem wn_X5_empty : Cond.instanceMethod yX5_empty ∈ bq_tbl := bq_mem (List.mem_of_getElem? (i := 172) (by decide +kernel)) rfl
set_option maxRecDepth 100000 in
theorem wn_X6_init : Cond.instanceMethod yX6_init ∈ bq_tbl := bq_mem (List.mem_of_getElem? (i := 194) (by decide +kernel)) rfl
set_option maxRecDepth 100000 in
theorem wn_X4_init : Cond.instanceMethod yX4_init ∈ bq_tbl := bq_mem (List.mem_of_getElem? (i := 214) (by decide +kernel)) rfl
set_option maxRecDepth 100000 in
theorem wn_X1_init : Cond.instanceMethod yX1_init ∈ bq_tbl := bq_mem (List.mem_of_getElem? (i := 232) (by decide +kernel)) rfl
set_option maxRecDepth 100000 in
theorem wn_X2_init : Cond.instanceMethod yX2_init ∈ bq_tbl := bq_mem (List.mem_of_getElem? (i := 245) (by decide +kernel)) rfl
set_option maxRecDepth 100000 in
theorem wn_X8_type : Cond.instanceMethod yX8_type ∈ bq_tbl := bq_mem (List.mem_of_getElem? (i := 295) (by decide +kernel)) rfl
set_option maxRecDepth 100000 in
theorem wn_X3_add : Cond.instanceMethod yX3_add ∈ bq_tbl := bq_mem (List.mem_of_getElem? (i := 299) (by decide +kernel)) rfl
set_option maxRecDepth 100000 in
theorem wn_X8_clear : Cond.instanceMethod yX8_clear ∈ bq_tbl := bq_mem (List.mem_of_getElem? (i := 303) (by decide +kernel)) rfl
set_option maxRecDepth 100000 in
theorem wn_X8_cellar : Cond.instanceMethod yX8_cellar ∈ bq_tbl := bq_mem (List.mem_of_getElem? (i := 307) (by decide +kernel)) rfl
set_option maxRecDepth 100000 in
theorem wn_X7_read : Cond.instanceMethod yX7_read ∈ bq_tbl := bq_mem (List.mem_of_getElem? (i := 311) (by decide +kernel)) rfl
set_option maxRecDepth 100000 in
theorem wn_X7_step : Cond.instanceMethod yX7_step ∈ bq_tbl := bq_mem (List.mem_of_getElem? (i := 317) (by decide +kernel)) rfl
set_option maxRecDepth 100000 in
theorem wn_X3_at : Cond.instanceMethod yX3_at ∈ bq_tbl := bq_mem (List.mem_of_getElem? (i := 320) (by decide +kernel)) rfl
set_option maxRecDepth 100000 in
theorem wn_X7_stepOverNumber : Cond.instanceMethod yX7_stepOverNumber ∈ bq_tbl := bq_mem (List.mem_of_getElem? (i := 328) (by decide +kernel)) rfl
set_option maxRecDepth 100000 in
theorem wn_J0_indexOf_0f7a4 : Cond.instanceMethod yJ0_indexOf_0f7a4 ∈ bq_tbl := bq_mem (List.mem_of_getElem? (i := 335) (by decide +kernel)) rfl
set_option maxRecDepth 100000 in
theorem wn_J0_indexOf_7cf53 : Cond.instanceMethod yJ0_indexOf_7cf53 ∈ bq_tbl := bq_mem (List.mem_of_getElem? (i := 339) (by decide +kernel)) rfl
set_option maxRecDepth 100000 in
theorem wn_J0_isLatin1_aae02 : Cond.instanceMethod yJ0_isLatin1_aae02 ∈ bq_tbl := bq_mem (List.mem_of_getElem? (i := 343) (by decide +kernel)) rfl
set_option maxRecDepth 100000 in
theorem wn_J0_length_8abf5 : Cond.instanceMethod yJ0_length_8abf5 ∈ bq_tbl := bq_mem (List.mem_of_getElem? (i := 349) (by decide +kernel)) rfl
set_option maxRecDepth 100000 in
theorem wn_J0_coder_7d493 : Cond.instanceMethod yJ0_coder_7d493 ∈ bq_tbl := bq_mem (List.mem_of_getElem? (i := 353) (by decide +kernel)) rfl
set_option maxRecDepth 100000 in
theorem wn_X7_isOneTooMany : Cond.instanceMethod yX7_isOneTooMany ∈ bq_tbl := bq_mem (List.mem_of_getElem? (i := 420) (by decide +kernel)) rfl
set_option maxRecDepth 100000 in
theorem wn_X7_readItem : Cond.instanceMethod yX7_readItem ∈ bq_tbl := bq_mem (List.mem_of_getElem? (i := 427) (by decide +kernel)) rfl
set_option maxRecDepth 100000 in
theorem wn_X7_isWithin : Cond.instanceMethod yX7_isWithin ∈ bq_tbl := bq_mem (List.mem_of_getElem? (i := 431) (by decide +kernel)) rfl
set_option maxRecDepth 100000 in
theorem wn_X0_tellBroom : Cond.instanceMethod yX0_tellBroom ∈ bq_tbl := bq_mem (List.mem_of_getElem? (i := 438) (by decide +kernel)) rfl
set_option maxRecDepth 100000 in
theorem wn_X5_place : Cond.instanceMethod yX5_place ∈ bq_tbl := bq_mem (List.mem_of_getElem? (i := 442) (by decide +kernel)) rfl
set_option maxRecDepth 100000 in
theorem wn_X0_tellSetting : Cond.instanceMethod yX0_tellSetting ∈ bq_tbl := bq_mem (List.mem_of_getElem? (i := 446) (by decide +kernel)) rfl
set_option maxRecDepth 100000 in
theorem wn_X0_begin : Cond.instanceMethod yX0_begin ∈ bq_tbl := bq_mem (List.mem_of_getElem? (i := 450) (by decide +kernel)) rfl
set_option maxRecDepth 100000 in
theorem wn_X0_heightOf : Cond.instanceMethod yX0_heightOf ∈ bq_tbl := bq_mem (List.mem_of_getElem? (i := 454) (by decide +kernel)) rfl
set_option maxRecDepth 100000 in
theorem wn_X0_copyFrom : Cond.instanceMethod yX0_copyFrom ∈ bq_tbl := bq_mem (List.mem_of_getElem? (i := 458) (by decide +kernel)) rfl
set_option maxRecDepth 100000 in
theorem wn_X5_copyFrom : Cond.instanceMethod yX5_copyFrom ∈ bq_tbl := bq_mem (List.mem_of_getElem? (i := 462) (by decide +kernel)) rfl
set_option maxRecDepth 100000 in
theorem wn_X8_broom : Cond.instanceMethod yX8_broom ∈ bq_tbl := bq_mem (List.mem_of_getElem? (i := 468) (by decide +kernel)) rfl
set_option maxRecDepth 100000 in
theorem wn_X8_now : Cond.instanceMethod yX8_now ∈ bq_tbl := bq_mem (List.mem_of_getElem? (i := 473) (by decide +kernel)) rfl
set_option maxRecDepth 100000 in
theorem wn_X8_minute : Cond.instanceMethod yX8_minute ∈ bq_tbl := bq_mem (List.mem_of_getElem? (i := 478) (by decide +kernel)) rfl
set_option maxRecDepth 100000 in
theorem wn_X6_remember : Cond.instanceMethod yX6_remember ∈ bq_tbl := bq_mem (List.mem_of_getElem? (i := 482) (by decide +kernel)) rfl
set_option maxRecDepth 100000 in
theorem wn_X0_stairWidth : Cond.instanceMethod yX0_stairWidth ∈ bq_tbl := bq_mem (List.mem_of_getElem? (i := 491) (by decide +kernel)) rfl
set_option maxRecDepth 100000 in
theorem wn_X0_drainCups : Cond.instanceMethod yX0_drainCups ∈ bq_tbl := bq_mem (List.mem_of_getElem? (i := 495) (by decide +kernel)) rfl
set_option maxRecDepth 100000 in
theorem wn_X5_pass : Cond.instanceMethod yX5_pass ∈ bq_tbl := bq_mem (List.mem_of_getElem? (i := 499) (by decide +kernel)) rfl
set_option maxRecDepth 100000 in
theorem wn_X5_isThere : Cond.instanceMethod yX5_isThere ∈ bq_tbl := bq_mem (List.mem_of_getElem? (i := 503) (by decide +kernel)) rfl
set_option maxRecDepth 100000 in
theorem wn_X5_comes : Cond.instanceMethod yX5_comes ∈ bq_tbl := bq_mem (List.mem_of_getElem? (i := 509) (by decide +kernel)) rfl
set_option maxRecDepth 100000 in
theorem wn_X5_loadOf : Cond.instanceMethod yX5_loadOf ∈ bq_tbl := bq_mem (List.mem_of_getElem? (i := 512) (by decide +kernel)) rfl
set_option maxRecDepth 100000 in
theorem wn_X8_splits : Cond.instanceMethod yX8_splits ∈ bq_tbl := bq_mem (List.mem_of_getElem? (i := 520) (by decide +kernel)) rfl
set_option maxRecDepth 100000 in
theorem wn_X5_canSplit : Cond.instanceMethod yX5_canSplit ∈ bq_tbl := bq_mem (List.mem_of_getElem? (i := 525) (by decide +kernel)) rfl
set_option maxRecDepth 100000 in
theorem wn_X5_firstFree : Cond.instanceMethod yX5_firstFree ∈ bq_tbl := bq_mem (List.mem_of_getElem? (i := 530) (by decide +kernel)) rfl
set_option maxRecDepth 100000 in
theorem wn_X5_split : Cond.instanceMethod yX5_split ∈ bq_tbl := bq_mem (List.mem_of_getElem? (i := 533) (by decide +kernel)) rfl
set_option maxRecDepth 100000 in
theorem wn_X8_teaches : Cond.instanceMethod yX8_teaches ∈ bq_tbl := bq_mem (List.mem_of_getElem? (i := 542) (by decide +kernel)) rfl
set_option maxRecDepth 100000 in
theorem wn_X8_bores : Cond.instanceMethod yX8_bores ∈ bq_tbl := bq_mem (List.mem_of_getElem? (i := 546) (by decide +kernel)) rfl
set_option maxRecDepth 100000 in
theorem wn_X8_burns : Cond.instanceMethod yX8_burns ∈ bq_tbl := bq_mem (List.mem_of_getElem? (i := 550) (by decide +kernel)) rfl
set_option maxRecDepth 100000 in
theorem wn_X8_takeAway : Cond.instanceMethod yX8_takeAway ∈ bq_tbl := bq_mem (List.mem_of_getElem? (i := 555) (by decide +kernel)) rfl
set_option maxRecDepth 100000 in
theorem wn_X8_halts : Cond.instanceMethod yX8_halts ∈ bq_tbl := bq_mem (List.mem_of_getElem? (i := 564) (by decide +kernel)) rfl
set_option maxRecDepth 100000 in
theorem wn_X8_undo : Cond.instanceMethod yX8_undo ∈ bq_tbl := bq_mem (List.mem_of_getElem? (i := 568) (by decide +kernel)) rfl
set_option maxRecDepth 100000 in
theorem wn_X6_bringBack : Cond.instanceMethod yX6_bringBack ∈ bq_tbl := bq_mem (List.mem_of_getElem? (i := 572) (by decide +kernel)) rfl
set_option maxRecDepth 100000 in
theorem wn_X8_stands : Cond.instanceMethod yX8_stands ∈ bq_tbl := bq_mem (List.mem_of_getElem? (i := 576) (by decide +kernel)) rfl
set_option maxRecDepth 100000 in
theorem wn_X8_lookAhead : Cond.instanceMethod yX8_lookAhead ∈ bq_tbl := bq_mem (List.mem_of_getElem? (i := 581) (by decide +kernel)) rfl
set_option maxRecDepth 100000 in
theorem wn_X8_above : Cond.instanceMethod yX8_above ∈ bq_tbl := bq_mem (List.mem_of_getElem? (i := 584) (by decide +kernel)) rfl
set_option maxRecDepth 100000 in
theorem wn_X0_isAboveMark : Cond.instanceMethod yX0_isAboveMark ∈ bq_tbl := bq_mem (List.mem_of_getElem? (i := 588) (by decide +kernel)) rfl
set_option maxRecDepth 100000 in
theorem wn_X8_most : Cond.instanceMethod yX8_most ∈ bq_tbl := bq_mem (List.mem_of_getElem? (i := 592) (by decide +kernel)) rfl
set_option maxRecDepth 100000 in
theorem wn_X8_teach : Cond.instanceMethod yX8_teach ∈ bq_tbl := bq_mem (List.mem_of_getElem? (i := 596) (by decide +kernel)) rfl
set_option maxRecDepth 100000 in
theorem wn_X8_fewest : Cond.instanceMethod yX8_fewest ∈ bq_tbl := bq_mem (List.mem_of_getElem? (i := 601) (by decide +kernel)) rfl
set_option maxRecDepth 100000 in
theorem wn_X8_helps : Cond.instanceMethod yX8_helps ∈ bq_tbl := bq_mem (List.mem_of_getElem? (i := 608) (by decide +kernel)) rfl
set_option maxRecDepth 100000 in
theorem wn_X8_staysAtMark : Cond.instanceMethod yX8_staysAtMark ∈ bq_tbl := bq_mem (List.mem_of_getElem? (i := 612) (by decide +kernel)) rfl
set_option maxRecDepth 100000 in
theorem wn_X8_burn : Cond.instanceMethod yX8_burn ∈ bq_tbl := bq_mem (List.mem_of_getElem? (i := 615) (by decide +kernel)) rfl
set_option maxRecDepth 100000 in
theorem wn_X8_stair : Cond.instanceMethod yX8_stair ∈ bq_tbl := bq_mem (List.mem_of_getElem? (i := 619) (by decide +kernel)) rfl
set_option maxRecDepth 100000 in
theorem wn_X8_drain : Cond.instanceMethod yX8_drain ∈ bq_tbl := bq_mem (List.mem_of_getElem? (i := 623) (by decide +kernel)) rfl
set_option maxRecDepth 100000 in
theorem wn_X8_flow : Cond.instanceMethod yX8_flow ∈ bq_tbl := bq_mem (List.mem_of_getElem? (i := 627) (by decide +kernel)) rfl
set_option maxRecDepth 100000 in
theorem wn_X1_become : Cond.instanceMethod yX1_become ∈ bq_tbl := bq_mem (List.mem_of_getElem? (i := 632) (by decide +kernel)) rfl
set_option maxRecDepth 100000 in
theorem wn_X1_plus : Cond.instanceMethod yX1_plus ∈ bq_tbl := bq_mem (List.mem_of_getElem? (i := 643) (by decide +kernel)) rfl
set_option maxRecDepth 100000 in
theorem wn_X1_part : Cond.instanceMethod yX1_part ∈ bq_tbl := bq_mem (List.mem_of_getElem? (i := 648) (by decide +kernel)) rfl
set_option maxRecDepth 100000 in
theorem wn_X8_splitOn : Cond.instanceMethod yX8_splitOn ∈ bq_tbl := bq_mem (List.mem_of_getElem? (i := 652) (by decide +kernel)) rfl
set_option maxRecDepth 100000 in
theorem wn_X8_price : Cond.instanceMethod yX8_price ∈ bq_tbl := bq_mem (List.mem_of_getElem? (i := 656) (by decide +kernel)) rfl
set_option maxRecDepth 100000 in
theorem wn_X8_heard : Cond.instanceMethod yX8_heard ∈ bq_tbl := bq_mem (List.mem_of_getElem? (i := 660) (by decide +kernel)) rfl
set_option maxRecDepth 100000 in
theorem wn_X8_measured : Cond.instanceMethod yX8_measured ∈ bq_tbl := bq_mem (List.mem_of_getElem? (i := 664) (by decide +kernel)) rfl
set_option maxRecDepth 100000 in
theorem wn_X4_add : Cond.instanceMethod yX4_add ∈ bq_tbl := bq_mem (List.mem_of_getElem? (i := 669) (by decide +kernel)) rfl
set_option maxRecDepth 100000 in
theorem wn_X8_forget : Cond.instanceMethod yX8_forget ∈ bq_tbl := bq_mem (List.mem_of_getElem? (i := 673) (by decide +kernel)) rfl
set_option maxRecDepth 100000 in
theorem wn_X8_splitFirst : Cond.instanceMethod yX8_splitFirst ∈ bq_tbl := bq_mem (List.mem_of_getElem? (i := 677) (by decide +kernel)) rfl
set_option maxRecDepth 100000 in
theorem wn_X8_isAsMeasured : Cond.instanceMethod yX8_isAsMeasured ∈ bq_tbl := bq_mem (List.mem_of_getElem? (i := 682) (by decide +kernel)) rfl
set_option maxRecDepth 100000 in
theorem wn_X4_allowWater : Cond.instanceMethod yX4_allowWater ∈ bq_tbl := bq_mem (List.mem_of_getElem? (i := 685) (by decide +kernel)) rfl
set_option maxRecDepth 100000 in
theorem wn_X8_odds : Cond.instanceMethod yX8_odds ∈ bq_tbl := bq_mem (List.mem_of_getElem? (i := 689) (by decide +kernel)) rfl
set_option maxRecDepth 100000 in
theorem wn_X5_comings : Cond.instanceMethod yX5_comings ∈ bq_tbl := bq_mem (List.mem_of_getElem? (i := 693) (by decide +kernel)) rfl
set_option maxRecDepth 100000 in
theorem wn_X8_countWays : Cond.instanceMethod yX8_countWays ∈ bq_tbl := bq_mem (List.mem_of_getElem? (i := 699) (by decide +kernel)) rfl
set_option maxRecDepth 100000 in
theorem wn_X8_rate : Cond.instanceMethod yX8_rate ∈ bq_tbl := bq_mem (List.mem_of_getElem? (i := 703) (by decide +kernel)) rfl
set_option maxRecDepth 100000 in
theorem wn_X2_asBroom : Cond.instanceMethod yX2_asBroom ∈ bq_tbl := bq_mem (List.mem_of_getElem? (i := 707) (by decide +kernel)) rfl
set_option maxRecDepth 100000 in
theorem wn_X2_asWet : Cond.instanceMethod yX2_asWet ∈ bq_tbl := bq_mem (List.mem_of_getElem? (i := 711) (by decide +kernel)) rfl
set_option maxRecDepth 100000 in
theorem wn_X2_asHalf : Cond.instanceMethod yX2_asHalf ∈ bq_tbl := bq_mem (List.mem_of_getElem? (i := 717) (by decide +kernel)) rfl
set_option maxRecDepth 100000 in
theorem wn_X2_asBored : Cond.instanceMethod yX2_asBored ∈ bq_tbl := bq_mem (List.mem_of_getElem? (i := 722) (by decide +kernel)) rfl
set_option maxRecDepth 100000 in
theorem wn_X2_asBurning : Cond.instanceMethod yX2_asBurning ∈ bq_tbl := bq_mem (List.mem_of_getElem? (i := 728) (by decide +kernel)) rfl
set_option maxRecDepth 100000 in
theorem wn_X2_asTeaching : Cond.instanceMethod yX2_asTeaching ∈ bq_tbl := bq_mem (List.mem_of_getElem? (i := 734) (by decide +kernel)) rfl
set_option maxRecDepth 100000 in
theorem wn_X8_keep : Cond.instanceMethod yX8_keep ∈ bq_tbl := bq_mem (List.mem_of_getElem? (i := 739) (by decide +kernel)) rfl
set_option maxRecDepth 100000 in
theorem wn_X8_back : Cond.instanceMethod yX8_back ∈ bq_tbl := bq_mem (List.mem_of_getElem? (i := 743) (by decide +kernel)) rfl
set_option maxRecDepth 100000 in
theorem wn_X8_count : Cond.instanceMethod yX8_count ∈ bq_tbl := bq_mem (List.mem_of_getElem? (i := 747) (by decide +kernel)) rfl
set_option maxRecDepth 100000 in
theorem wn_X8_trace : Cond.instanceMethod yX8_trace ∈ bq_tbl := bq_mem (List.mem_of_getElem? (i := 751) (by decide +kernel)) rfl
set_option maxRecDepth 100000 in
theorem wn_X9_init : Cond.instanceMethod yX9_init ∈ bq_tbl := bq_mem (List.mem_of_getElem? (i := 757) (by decide +kernel)) rfl
set_option maxRecDepth 100000 in
theorem wn_X9_reads : Cond.instanceMethod yX9_reads ∈ bq_tbl := bq_mem (List.mem_of_getElem? (i := 762) (by decide +kernel)) rfl
set_option maxRecDepth 100000 in
theorem wn_X9_token : Cond.instanceMethod yX9_token ∈ bq_tbl := bq_mem (List.mem_of_getElem? (i := 766) (by decide +kernel)) rfl
set_option maxRecDepth 100000 in
theorem wn_X9_letterAt : Cond.instanceMethod yX9_letterAt ∈ bq_tbl := bq_mem (List.mem_of_getElem? (i := 770) (by decide +kernel)) rfl
set_option maxRecDepth 100000 in
theorem wn_X9_readsItem : Cond.instanceMethod yX9_readsItem ∈ bq_tbl := bq_mem (List.mem_of_getElem? (i := 783) (by decide +kernel)) rfl
set_option maxRecDepth 100000 in
theorem wn_X9_number : Cond.instanceMethod yX9_number ∈ bq_tbl := bq_mem (List.mem_of_getElem? (i := 787) (by decide +kernel)) rfl
set_option maxRecDepth 100000 in
theorem wn_X9_tells : Cond.instanceMethod yX9_tells ∈ bq_tbl := bq_mem (List.mem_of_getElem? (i := 791) (by decide +kernel)) rfl
set_option maxRecDepth 100000 in
theorem wn_X9_begins : Cond.instanceMethod yX9_begins ∈ bq_tbl := bq_mem (List.mem_of_getElem? (i := 795) (by decide +kernel)) rfl
set_option maxRecDepth 100000 in
theorem wn_X9_high : Cond.instanceMethod yX9_high ∈ bq_tbl := bq_mem (List.mem_of_getElem? (i := 799) (by decide +kernel)) rfl
set_option maxRecDepth 100000 in
theorem wn_X9_type : Cond.instanceMethod yX9_type ∈ bq_tbl := bq_mem (List.mem_of_getElem? (i := 863) (by decide +kernel)) rfl
set_option maxRecDepth 100000 in
theorem wn_X9_clear : Cond.instanceMethod yX9_clear ∈ bq_tbl := bq_mem (List.mem_of_getElem? (i := 867) (by decide +kernel)) rfl
set_option maxRecDepth 100000 in
theorem wn_X9_cellar : Cond.instanceMethod yX9_cellar ∈ bq_tbl := bq_mem (List.mem_of_getElem? (i := 871) (by decide +kernel)) rfl
set_option maxRecDepth 100000 in
theorem wn_X9_broom : Cond.instanceMethod yX9_broom ∈ bq_tbl := bq_mem (List.mem_of_getElem? (i := 875) (by decide +kernel)) rfl
set_option maxRecDepth 100000 in
theorem wn_X9_now : Cond.instanceMethod yX9_now ∈ bq_tbl := bq_mem (List.mem_of_getElem? (i := 882) (by decide +kernel)) rfl
set_option maxRecDepth 100000 in
theorem wn_X9_there : Cond.instanceMethod yX9_there ∈ bq_tbl := bq_mem (List.mem_of_getElem? (i := 887) (by decide +kernel)) rfl
set_option maxRecDepth 100000 in
theorem wn_X9_minute : Cond.instanceMethod yX9_minute ∈ bq_tbl := bq_mem (List.mem_of_getElem? (i := 890) (by decide +kernel)) rfl
set_option maxRecDepth 100000 in
theorem wn_X9_keeps : Cond.instanceMethod yX9_keeps ∈ bq_tbl := bq_mem (List.mem_of_getElem? (i := 895) (by decide +kernel)) rfl
set_option maxRecDepth 100000 in
theorem wn_X9_asTold : Cond.instanceMethod yX9_asTold ∈ bq_tbl := bq_mem (List.mem_of_getElem? (i := 899) (by decide +kernel)) rfl
set_option maxRecDepth 100000 in
theorem wn_X9_goes : Cond.instanceMethod yX9_goes ∈ bq_tbl := bq_mem (List.mem_of_getElem? (i := 903) (by decide +kernel)) rfl
set_option maxRecDepth 100000 in
theorem wn_X9_carries : Cond.instanceMethod yX9_carries ∈ bq_tbl := bq_mem (List.mem_of_getElem? (i := 907) (by decide +kernel)) rfl
set_option maxRecDepth 100000 in
theorem wn_X9_splits : Cond.instanceMethod yX9_splits ∈ bq_tbl := bq_mem (List.mem_of_getElem? (i := 911) (by decide +kernel)) rfl
set_option maxRecDepth 100000 in
theorem wn_X9_isThere : Cond.instanceMethod yX9_isThere ∈ bq_tbl := bq_mem (List.mem_of_getElem? (i := 916) (by decide +kernel)) rfl
set_option maxRecDepth 100000 in
theorem wn_X9_canSplit : Cond.instanceMethod yX9_canSplit ∈ bq_tbl := bq_mem (List.mem_of_getElem? (i := 920) (by decide +kernel)) rfl
set_option maxRecDepth 100000 in
theorem wn_X9_free : Cond.instanceMethod yX9_free ∈ bq_tbl := bq_mem (List.mem_of_getElem? (i := 924) (by decide +kernel)) rfl
set_option maxRecDepth 100000 in
theorem wn_X9_splitsNow : Cond.instanceMethod yX9_splitsNow ∈ bq_tbl := bq_mem (List.mem_of_getElem? (i := 928) (by decide +kernel)) rfl
set_option maxRecDepth 100000 in
theorem wn_X9_teaches : Cond.instanceMethod yX9_teaches ∈ bq_tbl := bq_mem (List.mem_of_getElem? (i := 931) (by decide +kernel)) rfl
set_option maxRecDepth 100000 in
theorem wn_X9_bores : Cond.instanceMethod yX9_bores ∈ bq_tbl := bq_mem (List.mem_of_getElem? (i := 935) (by decide +kernel)) rfl
set_option maxRecDepth 100000 in
theorem wn_X9_burns : Cond.instanceMethod yX9_burns ∈ bq_tbl := bq_mem (List.mem_of_getElem? (i := 939) (by decide +kernel)) rfl
set_option maxRecDepth 100000 in
theorem wn_X9_halts : Cond.instanceMethod yX9_halts ∈ bq_tbl := bq_mem (List.mem_of_getElem? (i := 946) (by decide +kernel)) rfl
set_option maxRecDepth 100000 in
theorem wn_X9_undo : Cond.instanceMethod yX9_undo ∈ bq_tbl := bq_mem (List.mem_of_getElem? (i := 950) (by decide +kernel)) rfl
set_option maxRecDepth 100000 in
theorem wn_X9_stands : Cond.instanceMethod yX9_stands ∈ bq_tbl := bq_mem (List.mem_of_getElem? (i := 954) (by decide +kernel)) rfl
set_option maxRecDepth 100000 in
theorem wn_X9_holds : Cond.instanceMethod yX9_holds ∈ bq_tbl := bq_mem (List.mem_of_getElem? (i := 959) (by decide +kernel)) rfl
set_option maxRecDepth 100000 in
theorem wn_X9_lets : Cond.instanceMethod yX9_lets ∈ bq_tbl := bq_mem (List.mem_of_getElem? (i := 963) (by decide +kernel)) rfl
set_option maxRecDepth 100000 in
theorem wn_X9_above : Cond.instanceMethod yX9_above ∈ bq_tbl := bq_mem (List.mem_of_getElem? (i := 966) (by decide +kernel)) rfl
set_option maxRecDepth 100000 in
theorem wn_X9_most : Cond.instanceMethod yX9_most ∈ bq_tbl := bq_mem (List.mem_of_getElem? (i := 970) (by decide +kernel)) rfl
set_option maxRecDepth 100000 in
theorem wn_X9_highest : Cond.instanceMethod yX9_highest ∈ bq_tbl := bq_mem (List.mem_of_getElem? (i := 975) (by decide +kernel)) rfl
set_option maxRecDepth 100000 in
theorem wn_X9_teach : Cond.instanceMethod yX9_teach ∈ bq_tbl := bq_mem (List.mem_of_getElem? (i := 978) (by decide +kernel)) rfl
set_option maxRecDepth 100000 in
theorem wn_X9_fewest : Cond.instanceMethod yX9_fewest ∈ bq_tbl := bq_mem (List.mem_of_getElem? (i := 983) (by decide +kernel)) rfl
set_option maxRecDepth 100000 in
theorem wn_X9_burn : Cond.instanceMethod yX9_burn ∈ bq_tbl := bq_mem (List.mem_of_getElem? (i := 986) (by decide +kernel)) rfl
set_option maxRecDepth 100000 in
theorem wn_X9_stair : Cond.instanceMethod yX9_stair ∈ bq_tbl := bq_mem (List.mem_of_getElem? (i := 990) (by decide +kernel)) rfl
set_option maxRecDepth 100000 in
theorem wn_X9_drain : Cond.instanceMethod yX9_drain ∈ bq_tbl := bq_mem (List.mem_of_getElem? (i := 994) (by decide +kernel)) rfl
set_option maxRecDepth 100000 in
theorem wn_X9_flow : Cond.instanceMethod yX9_flow ∈ bq_tbl := bq_mem (List.mem_of_getElem? (i := 998) (by decide +kernel)) rfl
set_option maxRecDepth 100000 in
theorem wn_X9_splitOn : Cond.instanceMethod yX9_splitOn ∈ bq_tbl := bq_mem (List.mem_of_getElem? (i := 1006) (by decide +kernel)) rfl
set_option maxRecDepth 100000 in
theorem wn_X9_price : Cond.instanceMethod yX9_price ∈ bq_tbl := bq_mem (List.mem_of_getElem? (i := 1010) (by decide +kernel)) rfl
set_option maxRecDepth 100000 in
theorem wn_X9_heard : Cond.instanceMethod yX9_heard ∈ bq_tbl := bq_mem (List.mem_of_getElem? (i := 1014) (by decide +kernel)) rfl
set_option maxRecDepth 100000 in
theorem wn_X9_measured : Cond.instanceMethod yX9_measured ∈ bq_tbl := bq_mem (List.mem_of_getElem? (i := 1018) (by decide +kernel)) rfl
set_option maxRecDepth 100000 in
theorem wn_X9_forget : Cond.instanceMethod yX9_forget ∈ bq_tbl := bq_mem (List.mem_of_getElem? (i := 1022) (by decide +kernel)) rfl
set_option maxRecDepth 100000 in
theorem wn_X9_splitFirst : Cond.instanceMethod yX9_splitFirst ∈ bq_tbl := bq_mem (List.mem_of_getElem? (i := 1026) (by decide +kernel)) rfl
set_option maxRecDepth 100000 in
theorem wn_X9_isSo : Cond.instanceMethod yX9_isSo ∈ bq_tbl := bq_mem (List.mem_of_getElem? (i := 1031) (by decide +kernel)) rfl
set_option maxRecDepth 100000 in
theorem wn_X9_odds : Cond.instanceMethod yX9_odds ∈ bq_tbl := bq_mem (List.mem_of_getElem? (i := 1034) (by decide +kernel)) rfl
set_option maxRecDepth 100000 in
theorem wn_X9_rate : Cond.instanceMethod yX9_rate ∈ bq_tbl := bq_mem (List.mem_of_getElem? (i := 1039) (by decide +kernel)) rfl
set_option maxRecDepth 100000 in
theorem wn_X9_keep : Cond.instanceMethod yX9_keep ∈ bq_tbl := bq_mem (List.mem_of_getElem? (i := 1048) (by decide +kernel)) rfl
set_option maxRecDepth 100000 in
theorem wn_X9_back : Cond.instanceMethod yX9_back ∈ bq_tbl := bq_mem (List.mem_of_getElem? (i := 1052) (by decide +kernel)) rfl
set_option maxRecDepth 100000 in
theorem wn_X9_count : Cond.instanceMethod yX9_count ∈ bq_tbl := bq_mem (List.mem_of_getElem? (i := 1056) (by decide +kernel)) rfl
set_option maxRecDepth 100000 in
theorem wn_X9_trace : Cond.instanceMethod yX9_trace ∈ bq_tbl := bq_mem (List.mem_of_getElem? (i := 1060) (by decide +kernel)) rfl
set_option maxRecDepth 100000 in
theorem wt_X7_isDigit : Cond.static yX7_isDigit ∈ bq_tbl := bq_mem (List.mem_of_getElem? (i := 324) (by decide +kernel)) rfl
set_option maxRecDepth 100000 in
theorem wt_J9_min_7cf53 : Cond.static yJ9_min_7cf53 ∈ bq_tbl := bq_mem (List.mem_of_getElem? (i := 331) (by decide +kernel)) rfl
set_option maxRecDepth 100000 in
theorem wt_J1_indexOf_4cfef : Cond.static yJ1_indexOf_4cfef ∈ bq_tbl := bq_mem (List.mem_of_getElem? (i := 357) (by decide +kernel)) rfl
set_option maxRecDepth 100000 in
theorem wt_J1_canEncode_9a6ad : Cond.static yJ1_canEncode_9a6ad ∈ bq_tbl := bq_mem (List.mem_of_getElem? (i := 360) (by decide +kernel)) rfl
set_option maxRecDepth 100000 in
theorem wt_J9_max_7cf53 : Cond.static yJ9_max_7cf53 ∈ bq_tbl := bq_mem (List.mem_of_getElem? (i := 363) (by decide +kernel)) rfl
set_option maxRecDepth 100000 in
theorem wt_J1_indexOfChar_4cfef : Cond.static yJ1_indexOfChar_4cfef ∈ bq_tbl := bq_mem (List.mem_of_getElem? (i := 367) (by decide +kernel)) rfl
set_option maxRecDepth 100000 in
theorem wt_J2_indexOf_4cfef : Cond.static yJ2_indexOf_4cfef ∈ bq_tbl := bq_mem (List.mem_of_getElem? (i := 370) (by decide +kernel)) rfl
set_option maxRecDepth 100000 in
theorem wt_J2_indexOfChar_4cfef : Cond.static yJ2_indexOfChar_4cfef ∈ bq_tbl := bq_mem (List.mem_of_getElem? (i := 376) (by decide +kernel)) rfl
set_option maxRecDepth 100000 in
theorem wt_J2_checkBoundsBeginEnd_d044e : Cond.static yJ2_checkBoundsBeginEnd_d044e ∈ bq_tbl := bq_mem (List.mem_of_getElem? (i := 379) (by decide +kernel)) rfl
set_option maxRecDepth 100000 in
theorem wt_J2_length_9d52b : Cond.static yJ2_length_9d52b ∈ bq_tbl := bq_mem (List.mem_of_getElem? (i := 382) (by decide +kernel)) rfl
set_option maxRecDepth 100000 in
theorem wt_J0_checkBoundsBeginEnd_23922 : Cond.static yJ0_checkBoundsBeginEnd_23922 ∈ bq_tbl := bq_mem (List.mem_of_getElem? (i := 385) (by decide +kernel)) rfl
set_option maxRecDepth 100000 in
theorem wt_J3_checkFromToIndex_8c36e : Cond.static yJ3_checkFromToIndex_8c36e ∈ bq_tbl := bq_mem (List.mem_of_getElem? (i := 390) (by decide +kernel)) rfl
set_option maxRecDepth 100000 in
theorem wt_J2_indexOfCharUnsafe_4cfef : Cond.static yJ2_indexOfCharUnsafe_4cfef ∈ bq_tbl := bq_mem (List.mem_of_getElem? (i := 393) (by decide +kernel)) rfl
set_option maxRecDepth 100000 in
theorem wt_J2_getChar_3b067 : Cond.static yJ2_getChar_3b067 ∈ bq_tbl := bq_mem (List.mem_of_getElem? (i := 396) (by decide +kernel)) rfl
set_option maxRecDepth 100000 in
theorem wt_J2_indexOfSupplementary_4cfef : Cond.static yJ2_indexOfSupplementary_4cfef ∈ bq_tbl := bq_mem (List.mem_of_getElem? (i := 405) (by decide +kernel)) rfl
set_option maxRecDepth 100000 in
theorem wt_J11_isValidCodePoint_9a6ad : Cond.static yJ11_isValidCodePoint_9a6ad ∈ bq_tbl := bq_mem (List.mem_of_getElem? (i := 408) (by decide +kernel)) rfl
set_option maxRecDepth 100000 in
theorem wt_J11_highSurrogate_5068e : Cond.static yJ11_highSurrogate_5068e ∈ bq_tbl := bq_mem (List.mem_of_getElem? (i := 411) (by decide +kernel)) rfl
set_option maxRecDepth 100000 in
theorem wt_J11_lowSurrogate_5068e : Cond.static yJ11_lowSurrogate_5068e ∈ bq_tbl := bq_mem (List.mem_of_getElem? (i := 415) (by decide +kernel)) rfl
set_option maxRecDepth 100000 in
theorem wt_X8_bitOf : Cond.static yX8_bitOf ∈ bq_tbl := bq_mem (List.mem_of_getElem? (i := 423) (by decide +kernel)) rfl
set_option maxRecDepth 100000 in
theorem wt_J9_floorMod_7cf53 : Cond.static yJ9_floorMod_7cf53 ∈ bq_tbl := bq_mem (List.mem_of_getElem? (i := 486) (by decide +kernel)) rfl
set_option maxRecDepth 100000 in
theorem wt_X5_alike : Cond.static yX5_alike ∈ bq_tbl := bq_mem (List.mem_of_getElem? (i := 539) (by decide +kernel)) rfl
set_option maxRecDepth 100000 in
theorem wt_J6_bitCount_0f7a4 : Cond.static yJ6_bitCount_0f7a4 ∈ bq_tbl := bq_mem (List.mem_of_getElem? (i := 558) (by decide +kernel)) rfl
set_option maxRecDepth 100000 in
theorem wt_X8_isPlanned : Cond.static yX8_isPlanned ∈ bq_tbl := bq_mem (List.mem_of_getElem? (i := 604) (by decide +kernel)) rfl
set_option maxRecDepth 100000 in
theorem wt_J9_abs_067f4 : Cond.static yJ9_abs_067f4 ∈ bq_tbl := bq_mem (List.mem_of_getElem? (i := 636) (by decide +kernel)) rfl
set_option maxRecDepth 100000 in
theorem wt_X1_commonDivisor : Cond.static yX1_commonDivisor ∈ bq_tbl := bq_mem (List.mem_of_getElem? (i := 639) (by decide +kernel)) rfl
set_option maxRecDepth 100000 in
theorem wt_X9_itemOf : Cond.static yX9_itemOf ∈ bq_tbl := bq_mem (List.mem_of_getElem? (i := 773) (by decide +kernel)) rfl
set_option maxRecDepth 100000 in
theorem wt_X9_isDigit : Cond.static yX9_isDigit ∈ bq_tbl := bq_mem (List.mem_of_getElem? (i := 776) (by decide +kernel)) rfl
set_option maxRecDepth 100000 in
theorem wt_X9_in : Cond.static yX9_in ∈ bq_tbl := bq_mem (List.mem_of_getElem? (i := 779) (by decide +kernel)) rfl
set_option maxRecDepth 100000 in
theorem wt_X9_isNumber : Cond.static yX9_isNumber ∈ bq_tbl := bq_mem (List.mem_of_getElem? (i := 879) (by decide +kernel)) rfl
set_option maxRecDepth 100000 in
theorem wt_X9_ones : Cond.static yX9_ones ∈ bq_tbl := bq_mem (List.mem_of_getElem? (i := 943) (by decide +kernel)) rfl
set_option maxRecDepth 100000 in
theorem wt_X9_common : Cond.static yX9_common ∈ bq_tbl := bq_mem (List.mem_of_getElem? (i := 1003) (by decide +kernel)) rfl
set_option maxRecDepth 100000 in
theorem ws_X0_tellNothing : Cond.selects RX0 yX0_tellNothing yX0_tellNothing ∈ bq_tbl := bq_mem (List.mem_of_getElem? (i := 167) (by decide +kernel)) rfl
set_option maxRecDepth 100000 in
theorem ws_X5_empty : Cond.selects RX5 yX5_empty yX5_empty ∈ bq_tbl := bq_mem (List.mem_of_getElem? (i := 173) (by decide +kernel)) rfl
set_option maxRecDepth 100000 in
theorem ws_X8_type : Cond.selects RX8 yX8_type yX8_type ∈ bq_tbl := bq_mem (List.mem_of_getElem? (i := 296) (by decide +kernel)) rfl
set_option maxRecDepth 100000 in
theorem ws_X3_add : Cond.selects RX3 yX3_add yX3_add ∈ bq_tbl := bq_mem (List.mem_of_getElem? (i := 300) (by decide +kernel)) rfl
set_option maxRecDepth 100000 in
theorem ws_X8_clear : Cond.selects RX8 yX8_clear yX8_clear ∈ bq_tbl := bq_mem (List.mem_of_getElem? (i := 304) (by decide +kernel)) rfl
set_option maxRecDepth 100000 in
theorem ws_X8_cellar : Cond.selects RX8 yX8_cellar yX8_cellar ∈ bq_tbl := bq_mem (List.mem_of_getElem? (i := 308) (by decide +kernel)) rfl
set_option maxRecDepth 100000 in
theorem ws_X7_read : Cond.selects RX7 yX7_read yX7_read ∈ bq_tbl := bq_mem (List.mem_of_getElem? (i := 312) (by decide +kernel)) rfl
set_option maxRecDepth 100000 in
theorem ws_X3_at : Cond.selects RX3 yX3_at yX3_at ∈ bq_tbl := bq_mem (List.mem_of_getElem? (i := 321) (by decide +kernel)) rfl
set_option maxRecDepth 100000 in
theorem ws_J0_indexOf_0f7a4 : Cond.selects RJ0 yJ0_indexOf_0f7a4 yJ0_indexOf_0f7a4 ∈ bq_tbl := bq_mem (List.mem_of_getElem? (i := 336) (by decide +kernel)) rfl
set_option maxRecDepth 100000 in
theorem ws_J0_indexOf_7cf53 : Cond.selects RJ0 yJ0_indexOf_7cf53 yJ0_indexOf_7cf53 ∈ bq_tbl := bq_mem (List.mem_of_getElem? (i := 340) (by decide +kernel)) rfl
set_option maxRecDepth 100000 in
theorem ws_J0_isLatin1_aae02 : Cond.selects RJ0 yJ0_isLatin1_aae02 yJ0_isLatin1_aae02 ∈ bq_tbl := bq_mem (List.mem_of_getElem? (i := 344) (by decide +kernel)) rfl
set_option maxRecDepth 100000 in
theorem ws_J0_length_8abf5 : Cond.selects RJ0 yJ0_length_8abf5 yJ0_length_8abf5 ∈ bq_tbl := bq_mem (List.mem_of_getElem? (i := 350) (by decide +kernel)) rfl
set_option maxRecDepth 100000 in
theorem ws_J0_coder_7d493 : Cond.selects RJ0 yJ0_coder_7d493 yJ0_coder_7d493 ∈ bq_tbl := bq_mem (List.mem_of_getElem? (i := 354) (by decide +kernel)) rfl
set_option maxRecDepth 100000 in
theorem ws_X0_tellBroom : Cond.selects RX0 yX0_tellBroom yX0_tellBroom ∈ bq_tbl := bq_mem (List.mem_of_getElem? (i := 439) (by decide +kernel)) rfl
set_option maxRecDepth 100000 in
theorem ws_X5_place : Cond.selects RX5 yX5_place yX5_place ∈ bq_tbl := bq_mem (List.mem_of_getElem? (i := 443) (by decide +kernel)) rfl
set_option maxRecDepth 100000 in
theorem ws_X0_tellSetting : Cond.selects RX0 yX0_tellSetting yX0_tellSetting ∈ bq_tbl := bq_mem (List.mem_of_getElem? (i := 447) (by decide +kernel)) rfl
set_option maxRecDepth 100000 in
theorem ws_X0_begin : Cond.selects RX0 yX0_begin yX0_begin ∈ bq_tbl := bq_mem (List.mem_of_getElem? (i := 451) (by decide +kernel)) rfl
set_option maxRecDepth 100000 in
theorem ws_X0_heightOf : Cond.selects RX0 yX0_heightOf yX0_heightOf ∈ bq_tbl := bq_mem (List.mem_of_getElem? (i := 455) (by decide +kernel)) rfl
set_option maxRecDepth 100000 in
theorem ws_X0_copyFrom : Cond.selects RX0 yX0_copyFrom yX0_copyFrom ∈ bq_tbl := bq_mem (List.mem_of_getElem? (i := 459) (by decide +kernel)) rfl
set_option maxRecDepth 100000 in
theorem ws_X5_copyFrom : Cond.selects RX5 yX5_copyFrom yX5_copyFrom ∈ bq_tbl := bq_mem (List.mem_of_getElem? (i := 463) (by decide +kernel)) rfl
set_option maxRecDepth 100000 in
theorem ws_X8_broom : Cond.selects RX8 yX8_broom yX8_broom ∈ bq_tbl := bq_mem (List.mem_of_getElem? (i := 469) (by decide +kernel)) rfl
set_option maxRecDepth 100000 in
theorem ws_X8_now : Cond.selects RX8 yX8_now yX8_now ∈ bq_tbl := bq_mem (List.mem_of_getElem? (i := 474) (by decide +kernel)) rfl
set_option maxRecDepth 100000 in
theorem ws_X8_minute : Cond.selects RX8 yX8_minute yX8_minute ∈ bq_tbl := bq_mem (List.mem_of_getElem? (i := 479) (by decide +kernel)) rfl
set_option maxRecDepth 100000 in
theorem ws_X6_remember : Cond.selects RX6 yX6_remember yX6_remember ∈ bq_tbl := bq_mem (List.mem_of_getElem? (i := 483) (by decide +kernel)) rfl
set_option maxRecDepth 100000 in
theorem ws_X0_stairWidth : Cond.selects RX0 yX0_stairWidth yX0_stairWidth ∈ bq_tbl := bq_mem (List.mem_of_getElem? (i := 492) (by decide +kernel)) rfl
set_option maxRecDepth 100000 in
theorem ws_X0_drainCups : Cond.selects RX0 yX0_drainCups yX0_drainCups ∈ bq_tbl := bq_mem (List.mem_of_getElem? (i := 496) (by decide +kernel)) rfl
set_option maxRecDepth 100000 in
theorem ws_X5_pass : Cond.selects RX5 yX5_pass yX5_pass ∈ bq_tbl := bq_mem (List.mem_of_getElem? (i := 500) (by decide +kernel)) rfl
set_option maxRecDepth 100000 in
theorem ws_X5_isThere : Cond.selects RX5 yX5_isThere yX5_isThere ∈ bq_tbl := bq_mem (List.mem_of_getElem? (i := 504) (by decide +kernel)) rfl
set_option maxRecDepth 100000 in
theorem ws_X5_loadOf : Cond.selects RX5 yX5_loadOf yX5_loadOf ∈ bq_tbl := bq_mem (List.mem_of_getElem? (i := 513) (by decide +kernel)) rfl
set_option maxRecDepth 100000 in
theorem ws_X8_splits : Cond.selects RX8 yX8_splits yX8_splits ∈ bq_tbl := bq_mem (List.mem_of_getElem? (i := 521) (by decide +kernel)) rfl
set_option maxRecDepth 100000 in
theorem ws_X5_canSplit : Cond.selects RX5 yX5_canSplit yX5_canSplit ∈ bq_tbl := bq_mem (List.mem_of_getElem? (i := 526) (by decide +kernel)) rfl
set_option maxRecDepth 100000 in
theorem ws_X5_split : Cond.selects RX5 yX5_split yX5_split ∈ bq_tbl := bq_mem (List.mem_of_getElem? (i := 534) (by decide +kernel)) rfl
set_option maxRecDepth 100000 in
theorem ws_X8_teaches : Cond.selects RX8 yX8_teaches yX8_teaches ∈ bq_tbl := bq_mem (List.mem_of_getElem? (i := 543) (by decide +kernel)) rfl
set_option maxRecDepth 100000 in
theorem ws_X8_bores : Cond.selects RX8 yX8_bores yX8_bores ∈ bq_tbl := bq_mem (List.mem_of_getElem? (i := 547) (by decide +kernel)) rfl
set_option maxRecDepth 100000 in
theorem ws_X8_burns : Cond.selects RX8 yX8_burns yX8_burns ∈ bq_tbl := bq_mem (List.mem_of_getElem? (i := 551) (by decide +kernel)) rfl
set_option maxRecDepth 100000 in
theorem ws_X8_halts : Cond.selects RX8 yX8_halts yX8_halts ∈ bq_tbl := bq_mem (List.mem_of_getElem? (i := 565) (by decide +kernel)) rfl
set_option maxRecDepth 100000 in
theorem ws_X8_undo : Cond.selects RX8 yX8_undo yX8_undo ∈ bq_tbl := bq_mem (List.mem_of_getElem? (i := 569) (by decide +kernel)) rfl
set_option maxRecDepth 100000 in
theorem ws_X6_bringBack : Cond.selects RX6 yX6_bringBack yX6_bringBack ∈ bq_tbl := bq_mem (List.mem_of_getElem? (i := 573) (by decide +kernel)) rfl
set_option maxRecDepth 100000 in
theorem ws_X8_stands : Cond.selects RX8 yX8_stands yX8_stands ∈ bq_tbl := bq_mem (List.mem_of_getElem? (i := 577) (by decide +kernel)) rfl
set_option maxRecDepth 100000 in
theorem ws_X8_above : Cond.selects RX8 yX8_above yX8_above ∈ bq_tbl := bq_mem (List.mem_of_getElem? (i := 585) (by decide +kernel)) rfl
set_option maxRecDepth 100000 in
theorem ws_X0_isAboveMark : Cond.selects RX0 yX0_isAboveMark yX0_isAboveMark ∈ bq_tbl := bq_mem (List.mem_of_getElem? (i := 589) (by decide +kernel)) rfl
set_option maxRecDepth 100000 in
theorem ws_X8_most : Cond.selects RX8 yX8_most yX8_most ∈ bq_tbl := bq_mem (List.mem_of_getElem? (i := 593) (by decide +kernel)) rfl
set_option maxRecDepth 100000 in
theorem ws_X8_teach : Cond.selects RX8 yX8_teach yX8_teach ∈ bq_tbl := bq_mem (List.mem_of_getElem? (i := 597) (by decide +kernel)) rfl
set_option maxRecDepth 100000 in
theorem ws_X8_burn : Cond.selects RX8 yX8_burn yX8_burn ∈ bq_tbl := bq_mem (List.mem_of_getElem? (i := 616) (by decide +kernel)) rfl
set_option maxRecDepth 100000 in
theorem ws_X8_stair : Cond.selects RX8 yX8_stair yX8_stair ∈ bq_tbl := bq_mem (List.mem_of_getElem? (i := 620) (by decide +kernel)) rfl
set_option maxRecDepth 100000 in
theorem ws_X8_drain : Cond.selects RX8 yX8_drain yX8_drain ∈ bq_tbl := bq_mem (List.mem_of_getElem? (i := 624) (by decide +kernel)) rfl
set_option maxRecDepth 100000 in
theorem ws_X8_flow : Cond.selects RX8 yX8_flow yX8_flow ∈ bq_tbl := bq_mem (List.mem_of_getElem? (i := 628) (by decide +kernel)) rfl
set_option maxRecDepth 100000 in
theorem ws_X1_become : Cond.selects RX1 yX1_become yX1_become ∈ bq_tbl := bq_mem (List.mem_of_getElem? (i := 633) (by decide +kernel)) rfl
set_option maxRecDepth 100000 in
theorem ws_X1_plus : Cond.selects RX1 yX1_plus yX1_plus ∈ bq_tbl := bq_mem (List.mem_of_getElem? (i := 644) (by decide +kernel)) rfl
set_option maxRecDepth 100000 in
theorem ws_X1_part : Cond.selects RX1 yX1_part yX1_part ∈ bq_tbl := bq_mem (List.mem_of_getElem? (i := 649) (by decide +kernel)) rfl
set_option maxRecDepth 100000 in
theorem ws_X8_splitOn : Cond.selects RX8 yX8_splitOn yX8_splitOn ∈ bq_tbl := bq_mem (List.mem_of_getElem? (i := 653) (by decide +kernel)) rfl
set_option maxRecDepth 100000 in
theorem ws_X8_price : Cond.selects RX8 yX8_price yX8_price ∈ bq_tbl := bq_mem (List.mem_of_getElem? (i := 657) (by decide +kernel)) rfl
set_option maxRecDepth 100000 in
theorem ws_X8_heard : Cond.selects RX8 yX8_heard yX8_heard ∈ bq_tbl := bq_mem (List.mem_of_getElem? (i := 661) (by decide +kernel)) rfl
set_option maxRecDepth 100000 in
theorem ws_X8_measured : Cond.selects RX8 yX8_measured yX8_measured ∈ bq_tbl := bq_mem (List.mem_of_getElem? (i := 665) (by decide +kernel)) rfl
set_option maxRecDepth 100000 in
theorem ws_X4_add : Cond.selects RX4 yX4_add yX4_add ∈ bq_tbl := bq_mem (List.mem_of_getElem? (i := 670) (by decide +kernel)) rfl
set_option maxRecDepth 100000 in
theorem ws_X8_forget : Cond.selects RX8 yX8_forget yX8_forget ∈ bq_tbl := bq_mem (List.mem_of_getElem? (i := 674) (by decide +kernel)) rfl
set_option maxRecDepth 100000 in
theorem ws_X8_splitFirst : Cond.selects RX8 yX8_splitFirst yX8_splitFirst ∈ bq_tbl := bq_mem (List.mem_of_getElem? (i := 678) (by decide +kernel)) rfl
set_option maxRecDepth 100000 in
theorem ws_X4_allowWater : Cond.selects RX4 yX4_allowWater yX4_allowWater ∈ bq_tbl := bq_mem (List.mem_of_getElem? (i := 686) (by decide +kernel)) rfl
set_option maxRecDepth 100000 in
theorem ws_X8_odds : Cond.selects RX8 yX8_odds yX8_odds ∈ bq_tbl := bq_mem (List.mem_of_getElem? (i := 690) (by decide +kernel)) rfl
set_option maxRecDepth 100000 in
theorem ws_X5_comings : Cond.selects RX5 yX5_comings yX5_comings ∈ bq_tbl := bq_mem (List.mem_of_getElem? (i := 694) (by decide +kernel)) rfl
set_option maxRecDepth 100000 in
theorem ws_X8_rate : Cond.selects RX8 yX8_rate yX8_rate ∈ bq_tbl := bq_mem (List.mem_of_getElem? (i := 704) (by decide +kernel)) rfl
set_option maxRecDepth 100000 in
theorem ws_X2_asBroom : Cond.selects RX2 yX2_asBroom yX2_asBroom ∈ bq_tbl := bq_mem (List.mem_of_getElem? (i := 708) (by decide +kernel)) rfl
set_option maxRecDepth 100000 in
theorem ws_X2_asWet : Cond.selects RX2 yX2_asWet yX2_asWet ∈ bq_tbl := bq_mem (List.mem_of_getElem? (i := 712) (by decide +kernel)) rfl
set_option maxRecDepth 100000 in
theorem ws_X2_asHalf : Cond.selects RX2 yX2_asHalf yX2_asHalf ∈ bq_tbl := bq_mem (List.mem_of_getElem? (i := 718) (by decide +kernel)) rfl
set_option maxRecDepth 100000 in
theorem ws_X2_asBored : Cond.selects RX2 yX2_asBored yX2_asBored ∈ bq_tbl := bq_mem (List.mem_of_getElem? (i := 723) (by decide +kernel)) rfl
set_option maxRecDepth 100000 in
theorem ws_X2_asBurning : Cond.selects RX2 yX2_asBurning yX2_asBurning ∈ bq_tbl := bq_mem (List.mem_of_getElem? (i := 729) (by decide +kernel)) rfl
set_option maxRecDepth 100000 in
theorem ws_X2_asTeaching : Cond.selects RX2 yX2_asTeaching yX2_asTeaching ∈ bq_tbl := bq_mem (List.mem_of_getElem? (i := 735) (by decide +kernel)) rfl
set_option maxRecDepth 100000 in
theorem ws_X8_keep : Cond.selects RX8 yX8_keep yX8_keep ∈ bq_tbl := bq_mem (List.mem_of_getElem? (i := 740) (by decide +kernel)) rfl
set_option maxRecDepth 100000 in
theorem ws_X8_back : Cond.selects RX8 yX8_back yX8_back ∈ bq_tbl := bq_mem (List.mem_of_getElem? (i := 744) (by decide +kernel)) rfl
set_option maxRecDepth 100000 in
theorem ws_X8_count : Cond.selects RX8 yX8_count yX8_count ∈ bq_tbl := bq_mem (List.mem_of_getElem? (i := 748) (by decide +kernel)) rfl
set_option maxRecDepth 100000 in
theorem ws_X8_trace : Cond.selects RX8 yX8_trace yX8_trace ∈ bq_tbl := bq_mem (List.mem_of_getElem? (i := 752) (by decide +kernel)) rfl
set_option maxRecDepth 100000 in
theorem ws_X9_type : Cond.selects RX9 yX9_type yX9_type ∈ bq_tbl := bq_mem (List.mem_of_getElem? (i := 864) (by decide +kernel)) rfl
set_option maxRecDepth 100000 in
theorem ws_X9_clear : Cond.selects RX9 yX9_clear yX9_clear ∈ bq_tbl := bq_mem (List.mem_of_getElem? (i := 868) (by decide +kernel)) rfl
set_option maxRecDepth 100000 in
theorem ws_X9_cellar : Cond.selects RX9 yX9_cellar yX9_cellar ∈ bq_tbl := bq_mem (List.mem_of_getElem? (i := 872) (by decide +kernel)) rfl
set_option maxRecDepth 100000 in
theorem ws_X9_broom : Cond.selects RX9 yX9_broom yX9_broom ∈ bq_tbl := bq_mem (List.mem_of_getElem? (i := 876) (by decide +kernel)) rfl
set_option maxRecDepth 100000 in
theorem ws_X9_now : Cond.selects RX9 yX9_now yX9_now ∈ bq_tbl := bq_mem (List.mem_of_getElem? (i := 883) (by decide +kernel)) rfl
set_option maxRecDepth 100000 in
theorem ws_X9_minute : Cond.selects RX9 yX9_minute yX9_minute ∈ bq_tbl := bq_mem (List.mem_of_getElem? (i := 891) (by decide +kernel)) rfl
set_option maxRecDepth 100000 in
theorem ws_X9_splits : Cond.selects RX9 yX9_splits yX9_splits ∈ bq_tbl := bq_mem (List.mem_of_getElem? (i := 912) (by decide +kernel)) rfl
set_option maxRecDepth 100000 in
theorem ws_X9_teaches : Cond.selects RX9 yX9_teaches yX9_teaches ∈ bq_tbl := bq_mem (List.mem_of_getElem? (i := 932) (by decide +kernel)) rfl
set_option maxRecDepth 100000 in
theorem ws_X9_bores : Cond.selects RX9 yX9_bores yX9_bores ∈ bq_tbl := bq_mem (List.mem_of_getElem? (i := 936) (by decide +kernel)) rfl
set_option maxRecDepth 100000 in
theorem ws_X9_burns : Cond.selects RX9 yX9_burns yX9_burns ∈ bq_tbl := bq_mem (List.mem_of_getElem? (i := 940) (by decide +kernel)) rfl
set_option maxRecDepth 100000 in
theorem ws_X9_halts : Cond.selects RX9 yX9_halts yX9_halts ∈ bq_tbl := bq_mem (List.mem_of_getElem? (i := 947) (by decide +kernel)) rfl
set_option maxRecDepth 100000 in
theorem ws_X9_undo : Cond.selects RX9 yX9_undo yX9_undo ∈ bq_tbl := bq_mem (List.mem_of_getElem? (i := 951) (by decide +kernel)) rfl
set_option maxRecDepth 100000 in
theorem ws_X9_stands : Cond.selects RX9 yX9_stands yX9_stands ∈ bq_tbl := bq_mem (List.mem_of_getElem? (i := 955) (by decide +kernel)) rfl
set_option maxRecDepth 100000 in
theorem ws_X9_above : Cond.selects RX9 yX9_above yX9_above ∈ bq_tbl := bq_mem (List.mem_of_getElem? (i := 967) (by decide +kernel)) rfl
set_option maxRecDepth 100000 in
theorem ws_X9_most : Cond.selects RX9 yX9_most yX9_most ∈ bq_tbl := bq_mem (List.mem_of_getElem? (i := 971) (by decide +kernel)) rfl
set_option maxRecDepth 100000 in
theorem ws_X9_teach : Cond.selects RX9 yX9_teach yX9_teach ∈ bq_tbl := bq_mem (List.mem_of_getElem? (i := 979) (by decide +kernel)) rfl
set_option maxRecDepth 100000 in
theorem ws_X9_burn : Cond.selects RX9 yX9_burn yX9_burn ∈ bq_tbl := bq_mem (List.mem_of_getElem? (i := 987) (by decide +kernel)) rfl
set_option maxRecDepth 100000 in
theorem ws_X9_stair : Cond.selects RX9 yX9_stair yX9_stair ∈ bq_tbl := bq_mem (List.mem_of_getElem? (i := 991) (by decide +kernel)) rfl
set_option maxRecDepth 100000 in
theorem ws_X9_drain : Cond.selects RX9 yX9_drain yX9_drain ∈ bq_tbl := bq_mem (List.mem_of_getElem? (i := 995) (by decide +kernel)) rfl
set_option maxRecDepth 100000 in
theorem ws_X9_flow : Cond.selects RX9 yX9_flow yX9_flow ∈ bq_tbl := bq_mem (List.mem_of_getElem? (i := 999) (by decide +kernel)) rfl
set_option maxRecDepth 100000 in
theorem ws_X9_splitOn : Cond.selects RX9 yX9_splitOn yX9_splitOn ∈ bq_tbl := bq_mem (List.mem_of_getElem? (i := 1007) (by decide +kernel)) rfl
set_option maxRecDepth 100000 in
theorem ws_X9_price : Cond.selects RX9 yX9_price yX9_price ∈ bq_tbl := bq_mem (List.mem_of_getElem? (i := 1011) (by decide +kernel)) rfl
set_option maxRecDepth 100000 in
theorem ws_X9_heard : Cond.selects RX9 yX9_heard yX9_heard ∈ bq_tbl := bq_mem (List.mem_of_getElem? (i := 1015) (by decide +kernel)) rfl
set_option maxRecDepth 100000 in
theorem ws_X9_measured : Cond.selects RX9 yX9_measured yX9_measured ∈ bq_tbl := bq_mem (List.mem_of_getElem? (i := 1019) (by decide +kernel)) rfl
set_option maxRecDepth 100000 in
theorem ws_X9_forget : Cond.selects RX9 yX9_forget yX9_forget ∈ bq_tbl := bq_mem (List.mem_of_getElem? (i := 1023) (by decide +kernel)) rfl
set_option maxRecDepth 100000 in
theorem ws_X9_splitFirst : Cond.selects RX9 yX9_splitFirst yX9_splitFirst ∈ bq_tbl := bq_mem (List.mem_of_getElem? (i := 1027) (by decide +kernel)) rfl
set_option maxRecDepth 100000 in
theorem ws_X9_odds : Cond.selects RX9 yX9_odds yX9_odds ∈ bq_tbl := bq_mem (List.mem_of_getElem? (i := 1035) (by decide +kernel)) rfl
set_option maxRecDepth 100000 in
theorem ws_X9_rate : Cond.selects RX9 yX9_rate yX9_rate ∈ bq_tbl := bq_mem (List.mem_of_getElem? (i := 1040) (by decide +kernel)) rfl
set_option maxRecDepth 100000 in
theorem ws_X9_keep : Cond.selects RX9 yX9_keep yX9_keep ∈ bq_tbl := bq_mem (List.mem_of_getElem? (i := 1049) (by decide +kernel)) rfl
set_option maxRecDepth 100000 in
theorem ws_X9_back : Cond.selects RX9 yX9_back yX9_back ∈ bq_tbl := bq_mem (List.mem_of_getElem? (i := 1053) (by decide +kernel)) rfl
set_option maxRecDepth 100000 in
theorem ws_X9_count : Cond.selects RX9 yX9_count yX9_count ∈ bq_tbl := bq_mem (List.mem_of_getElem? (i := 1057) (by decide +kernel)) rfl
set_option maxRecDepth 100000 in
theorem ws_X9_trace : Cond.selects RX9 yX9_trace yX9_trace ∈ bq_tbl := bq_mem (List.mem_of_getElem? (i := 1061) (by decide +kernel)) rfl
set_option maxRecDepth 100000 in
theorem ws_X7_step : Cond.selects RX7 yX7_step yX7_step ∈ bq_tbl := bq_mem (List.mem_of_getElem? (i := 0) (by decide +kernel)) rfl
set_option maxRecDepth 100000 in
theorem ws_X7_stepOverNumber : Cond.selects RX7 yX7_stepOverNumber yX7_stepOverNumber ∈ bq_tbl := bq_mem (List.mem_of_getElem? (i := 1) (by decide +kernel)) rfl
set_option maxRecDepth 100000 in
theorem ws_X7_isOneTooMany : Cond.selects RX7 yX7_isOneTooMany yX7_isOneTooMany ∈ bq_tbl := bq_mem (List.mem_of_getElem? (i := 2) (by decide +kernel)) rfl
set_option maxRecDepth 100000 in
theorem ws_X7_readItem : Cond.selects RX7 yX7_readItem yX7_readItem ∈ bq_tbl := bq_mem (List.mem_of_getElem? (i := 3) (by decide +kernel)) rfl
set_option maxRecDepth 100000 in
theorem ws_X7_isWithin : Cond.selects RX7 yX7_isWithin yX7_isWithin ∈ bq_tbl := bq_mem (List.mem_of_getElem? (i := 4) (by decide +kernel)) rfl
set_option maxRecDepth 100000 in
theorem ws_X5_comes : Cond.selects RX5 yX5_comes yX5_comes ∈ bq_tbl := bq_mem (List.mem_of_getElem? (i := 5) (by decide +kernel)) rfl
set_option maxRecDepth 100000 in
theorem ws_X5_firstFree : Cond.selects RX5 yX5_firstFree yX5_firstFree ∈ bq_tbl := bq_mem (List.mem_of_getElem? (i := 6) (by decide +kernel)) rfl
set_option maxRecDepth 100000 in
theorem ws_X8_takeAway : Cond.selects RX8 yX8_takeAway yX8_takeAway ∈ bq_tbl := bq_mem (List.mem_of_getElem? (i := 7) (by decide +kernel)) rfl
set_option maxRecDepth 100000 in
theorem ws_X8_lookAhead : Cond.selects RX8 yX8_lookAhead yX8_lookAhead ∈ bq_tbl := bq_mem (List.mem_of_getElem? (i := 8) (by decide +kernel)) rfl
set_option maxRecDepth 100000 in
theorem ws_X8_fewest : Cond.selects RX8 yX8_fewest yX8_fewest ∈ bq_tbl := bq_mem (List.mem_of_getElem? (i := 9) (by decide +kernel)) rfl
set_option maxRecDepth 100000 in
theorem ws_X8_helps : Cond.selects RX8 yX8_helps yX8_helps ∈ bq_tbl := bq_mem (List.mem_of_getElem? (i := 10) (by decide +kernel)) rfl
set_option maxRecDepth 100000 in
theorem ws_X8_staysAtMark : Cond.selects RX8 yX8_staysAtMark yX8_staysAtMark ∈ bq_tbl := bq_mem (List.mem_of_getElem? (i := 11) (by decide +kernel)) rfl
set_option maxRecDepth 100000 in
theorem ws_X8_isAsMeasured : Cond.selects RX8 yX8_isAsMeasured yX8_isAsMeasured ∈ bq_tbl := bq_mem (List.mem_of_getElem? (i := 12) (by decide +kernel)) rfl
set_option maxRecDepth 100000 in
theorem ws_X8_countWays : Cond.selects RX8 yX8_countWays yX8_countWays ∈ bq_tbl := bq_mem (List.mem_of_getElem? (i := 13) (by decide +kernel)) rfl
set_option maxRecDepth 100000 in
theorem ws_X9_reads : Cond.selects RX9 yX9_reads yX9_reads ∈ bq_tbl := bq_mem (List.mem_of_getElem? (i := 14) (by decide +kernel)) rfl
set_option maxRecDepth 100000 in
theorem ws_X9_token : Cond.selects RX9 yX9_token yX9_token ∈ bq_tbl := bq_mem (List.mem_of_getElem? (i := 15) (by decide +kernel)) rfl
set_option maxRecDepth 100000 in
theorem ws_X9_letterAt : Cond.selects RX9 yX9_letterAt yX9_letterAt ∈ bq_tbl := bq_mem (List.mem_of_getElem? (i := 16) (by decide +kernel)) rfl
set_option maxRecDepth 100000 in
theorem ws_X9_readsItem : Cond.selects RX9 yX9_readsItem yX9_readsItem ∈ bq_tbl := bq_mem (List.mem_of_getElem? (i := 17) (by decide +kernel)) rfl
set_option maxRecDepth 100000 in
theorem ws_X9_number : Cond.selects RX9 yX9_number yX9_number ∈ bq_tbl := bq_mem (List.mem_of_getElem? (i := 18) (by decide +kernel)) rfl
set_option maxRecDepth 100000 in
theorem ws_X9_tells : Cond.selects RX9 yX9_tells yX9_tells ∈ bq_tbl := bq_mem (List.mem_of_getElem? (i := 19) (by decide +kernel)) rfl
set_option maxRecDepth 100000 in
theorem ws_X9_begins : Cond.selects RX9 yX9_begins yX9_begins ∈ bq_tbl := bq_mem (List.mem_of_getElem? (i := 20) (by decide +kernel)) rfl
set_option maxRecDepth 100000 in
theorem ws_X9_high : Cond.selects RX9 yX9_high yX9_high ∈ bq_tbl := bq_mem (List.mem_of_getElem? (i := 21) (by decide +kernel)) rfl
set_option maxRecDepth 100000 in
theorem ws_X9_there : Cond.selects RX9 yX9_there yX9_there ∈ bq_tbl := bq_mem (List.mem_of_getElem? (i := 22) (by decide +kernel)) rfl
set_option maxRecDepth 100000 in
theorem ws_X9_keeps : Cond.selects RX9 yX9_keeps yX9_keeps ∈ bq_tbl := bq_mem (List.mem_of_getElem? (i := 23) (by decide +kernel)) rfl
set_option maxRecDepth 100000 in
theorem ws_X9_asTold : Cond.selects RX9 yX9_asTold yX9_asTold ∈ bq_tbl := bq_mem (List.mem_of_getElem? (i := 24) (by decide +kernel)) rfl
set_option maxRecDepth 100000 in
theorem ws_X9_goes : Cond.selects RX9 yX9_goes yX9_goes ∈ bq_tbl := bq_mem (List.mem_of_getElem? (i := 25) (by decide +kernel)) rfl
set_option maxRecDepth 100000 in
theorem ws_X9_carries : Cond.selects RX9 yX9_carries yX9_carries ∈ bq_tbl := bq_mem (List.mem_of_getElem? (i := 26) (by decide +kernel)) rfl
set_option maxRecDepth 100000 in
theorem ws_X9_isThere : Cond.selects RX9 yX9_isThere yX9_isThere ∈ bq_tbl := bq_mem (List.mem_of_getElem? (i := 27) (by decide +kernel)) rfl
set_option maxRecDepth 100000 in
theorem ws_X9_canSplit : Cond.selects RX9 yX9_canSplit yX9_canSplit ∈ bq_tbl := bq_mem (List.mem_of_getElem? (i := 28) (by decide +kernel)) rfl
set_option maxRecDepth 100000 in
theorem ws_X9_free : Cond.selects RX9 yX9_free yX9_free ∈ bq_tbl := bq_mem (List.mem_of_getElem? (i := 29) (by decide +kernel)) rfl
set_option maxRecDepth 100000 in
theorem ws_X9_splitsNow : Cond.selects RX9 yX9_splitsNow yX9_splitsNow ∈ bq_tbl := bq_mem (List.mem_of_getElem? (i := 30) (by decide +kernel)) rfl
set_option maxRecDepth 100000 in
theorem ws_X9_holds : Cond.selects RX9 yX9_holds yX9_holds ∈ bq_tbl := bq_mem (List.mem_of_getElem? (i := 31) (by decide +kernel)) rfl
set_option maxRecDepth 100000 in
theorem ws_X9_lets : Cond.selects RX9 yX9_lets yX9_lets ∈ bq_tbl := bq_mem (List.mem_of_getElem? (i := 32) (by decide +kernel)) rfl
set_option maxRecDepth 100000 in
theorem ws_X9_highest : Cond.selects RX9 yX9_highest yX9_highest ∈ bq_tbl := bq_mem (List.mem_of_getElem? (i := 33) (by decide +kernel)) rfl
set_option maxRecDepth 100000 in
theorem ws_X9_fewest : Cond.selects RX9 yX9_fewest yX9_fewest ∈ bq_tbl := bq_mem (List.mem_of_getElem? (i := 34) (by decide +kernel)) rfl
set_option maxRecDepth 100000 in
theorem ws_X9_isSo : Cond.selects RX9 yX9_isSo yX9_isSo ∈ bq_tbl := bq_mem (List.mem_of_getElem? (i := 35) (by decide +kernel)) rfl
set_option maxRecDepth 100000 in
theorem fl_X3_9 : bq_FL RX3 9 3 0 := ⟨by decide, by decide, bq_mem (List.mem_of_getElem? (i := 68) (by decide +kernel)) rfl⟩
set_option maxRecDepth 100000 in
theorem fl_X3_13 : bq_FL RX3 13 3 1 := ⟨by decide, by decide, bq_mem (List.mem_of_getElem? (i := 69) (by decide +kernel)) rfl⟩
set_option maxRecDepth 100000 in
theorem fl_X8_87 : bq_FL RX8 87 3 1 := ⟨by decide, by decide, bq_mem (List.mem_of_getElem? (i := 70) (by decide +kernel)) rfl⟩
set_option maxRecDepth 100000 in
theorem fl_X7_11 : bq_FL RX7 11 7 0 := ⟨by decide, by decide, bq_mem (List.mem_of_getElem? (i := 83) (by decide +kernel)) rfl⟩
set_option maxRecDepth 100000 in
theorem fl_X7_20 : bq_FL RX7 20 7 1 := ⟨by decide, by decide, bq_mem (List.mem_of_getElem? (i := 84) (by decide +kernel)) rfl⟩
set_option maxRecDepth 100000 in
theorem fl_X7_52 : bq_FL RX7 52 7 2 := ⟨by decide, by decide, bq_mem (List.mem_of_getElem? (i := 85) (by decide +kernel)) rfl⟩
set_option maxRecDepth 100000 in
theorem fl_X7_33 : bq_FL RX7 33 7 3 := ⟨by decide, by decide, bq_mem (List.mem_of_getElem? (i := 86) (by decide +kernel)) rfl⟩
set_option maxRecDepth 100000 in
theorem fl_X7_69 : bq_FL RX7 69 7 4 := ⟨by decide, by decide, bq_mem (List.mem_of_getElem? (i := 87) (by decide +kernel)) rfl⟩
set_option maxRecDepth 100000 in
theorem fl_X7_24 : bq_FL RX7 24 7 5 := ⟨by decide, by decide, bq_mem (List.mem_of_getElem? (i := 88) (by decide +kernel)) rfl⟩
set_option maxRecDepth 100000 in
theorem fl_X5_21 : bq_FL RX5 21 5 0 := ⟨by decide, by decide, bq_mem (List.mem_of_getElem? (i := 114) (by decide +kernel)) rfl⟩
set_option maxRecDepth 100000 in
theorem fl_X8_135 : bq_FL RX8 135 5 0 := ⟨by decide, by decide, bq_mem (List.mem_of_getElem? (i := 115) (by decide +kernel)) rfl⟩
set_option maxRecDepth 100000 in
theorem fl_X5_25 : bq_FL RX5 25 5 1 := ⟨by decide, by decide, bq_mem (List.mem_of_getElem? (i := 116) (by decide +kernel)) rfl⟩
set_option maxRecDepth 100000 in
theorem fl_X0_41 : bq_FL RX0 41 5 1 := ⟨by decide, by decide, bq_mem (List.mem_of_getElem? (i := 117) (by decide +kernel)) rfl⟩
set_option maxRecDepth 100000 in
theorem fl_X8_138 : bq_FL RX8 138 5 1 := ⟨by decide, by decide, bq_mem (List.mem_of_getElem? (i := 118) (by decide +kernel)) rfl⟩
set_option maxRecDepth 100000 in
theorem fl_X5_28 : bq_FL RX5 28 5 2 := ⟨by decide, by decide, bq_mem (List.mem_of_getElem? (i := 119) (by decide +kernel)) rfl⟩
set_option maxRecDepth 100000 in
theorem fl_X0_48 : bq_FL RX0 48 5 2 := ⟨by decide, by decide, bq_mem (List.mem_of_getElem? (i := 120) (by decide +kernel)) rfl⟩
set_option maxRecDepth 100000 in
theorem fl_X8_145 : bq_FL RX8 145 5 2 := ⟨by decide, by decide, bq_mem (List.mem_of_getElem? (i := 121) (by decide +kernel)) rfl⟩
set_option maxRecDepth 100000 in
theorem fl_X5_9 : bq_FL RX5 9 5 3 := ⟨by decide, by decide, bq_mem (List.mem_of_getElem? (i := 122) (by decide +kernel)) rfl⟩
set_option maxRecDepth 100000 in
theorem fl_X8_109 : bq_FL RX8 109 5 3 := ⟨by decide, by decide, bq_mem (List.mem_of_getElem? (i := 123) (by decide +kernel)) rfl⟩
set_option maxRecDepth 100000 in
theorem fl_X5_15 : bq_FL RX5 15 5 4 := ⟨by decide, by decide, bq_mem (List.mem_of_getElem? (i := 124) (by decide +kernel)) rfl⟩
set_option maxRecDepth 100000 in
theorem fl_X8_113 : bq_FL RX8 113 5 4 := ⟨by decide, by decide, bq_mem (List.mem_of_getElem? (i := 125) (by decide +kernel)) rfl⟩
set_option maxRecDepth 100000 in
theorem fl_X5_18 : bq_FL RX5 18 5 5 := ⟨by decide, by decide, bq_mem (List.mem_of_getElem? (i := 126) (by decide +kernel)) rfl⟩
set_option maxRecDepth 100000 in
theorem fl_X8_116 : bq_FL RX8 116 5 5 := ⟨by decide, by decide, bq_mem (List.mem_of_getElem? (i := 127) (by decide +kernel)) rfl⟩
set_option maxRecDepth 100000 in
theorem fl_X5_31 : bq_FL RX5 31 5 6 := ⟨by decide, by decide, bq_mem (List.mem_of_getElem? (i := 128) (by decide +kernel)) rfl⟩
set_option maxRecDepth 100000 in
theorem fl_X8_119 : bq_FL RX8 119 5 6 := ⟨by decide, by decide, bq_mem (List.mem_of_getElem? (i := 129) (by decide +kernel)) rfl⟩
set_option maxRecDepth 100000 in
theorem fl_X5_34 : bq_FL RX5 34 5 7 := ⟨by decide, by decide, bq_mem (List.mem_of_getElem? (i := 130) (by decide +kernel)) rfl⟩
set_option maxRecDepth 100000 in
theorem fl_X8_126 : bq_FL RX8 126 5 7 := ⟨by decide, by decide, bq_mem (List.mem_of_getElem? (i := 131) (by decide +kernel)) rfl⟩
set_option maxRecDepth 100000 in
theorem fl_X5_37 : bq_FL RX5 37 5 8 := ⟨by decide, by decide, bq_mem (List.mem_of_getElem? (i := 132) (by decide +kernel)) rfl⟩
set_option maxRecDepth 100000 in
theorem fl_X8_129 : bq_FL RX8 129 5 8 := ⟨by decide, by decide, bq_mem (List.mem_of_getElem? (i := 133) (by decide +kernel)) rfl⟩
set_option maxRecDepth 100000 in
theorem fl_X5_40 : bq_FL RX5 40 5 9 := ⟨by decide, by decide, bq_mem (List.mem_of_getElem? (i := 134) (by decide +kernel)) rfl⟩
set_option maxRecDepth 100000 in
theorem fl_X8_132 : bq_FL RX8 132 5 9 := ⟨by decide, by decide, bq_mem (List.mem_of_getElem? (i := 135) (by decide +kernel)) rfl⟩
set_option maxRecDepth 100000 in
theorem fl_X5_47 : bq_FL RX5 47 5 10 := ⟨by decide, by decide, bq_mem (List.mem_of_getElem? (i := 136) (by decide +kernel)) rfl⟩
set_option maxRecDepth 100000 in
theorem fl_X8_227 : bq_FL RX8 227 5 10 := ⟨by decide, by decide, bq_mem (List.mem_of_getElem? (i := 137) (by decide +kernel)) rfl⟩
set_option maxRecDepth 100000 in
theorem fl_X5_63 : bq_FL RX5 63 5 11 := ⟨by decide, by decide, bq_mem (List.mem_of_getElem? (i := 138) (by decide +kernel)) rfl⟩
set_option maxRecDepth 100000 in
theorem fl_X8_224 : bq_FL RX8 224 5 11 := ⟨by decide, by decide, bq_mem (List.mem_of_getElem? (i := 139) (by decide +kernel)) rfl⟩
set_option maxRecDepth 100000 in
theorem fs_X0_23 : Cond.fieldLink RX0 23 "BroomFlood$Cellar" "AT_FIRST" "[I" ∈ bq_tbl := bq_mem (List.mem_of_getElem? (i := 169) (by decide +kernel)) rfl
set_option maxRecDepth 100000 in
theorem fl_X0_9 : bq_FL RX0 9 0 0 := ⟨by decide, by decide, bq_mem (List.mem_of_getElem? (i := 175) (by decide +kernel)) rfl⟩
set_option maxRecDepth 100000 in
theorem fl_X8_270 : bq_FL RX8 270 0 0 := ⟨by decide, by decide, bq_mem (List.mem_of_getElem? (i := 176) (by decide +kernel)) rfl⟩
set_option maxRecDepth 100000 in
theorem fl_X0_16 : bq_FL RX0 16 0 1 := ⟨by decide, by decide, bq_mem (List.mem_of_getElem? (i := 177) (by decide +kernel)) rfl⟩
set_option maxRecDepth 100000 in
theorem fl_X8_99 : bq_FL RX8 99 0 1 := ⟨by decide, by decide, bq_mem (List.mem_of_getElem? (i := 178) (by decide +kernel)) rfl⟩
set_option maxRecDepth 100000 in
theorem fl_X0_26 : bq_FL RX0 26 0 2 := ⟨by decide, by decide, bq_mem (List.mem_of_getElem? (i := 179) (by decide +kernel)) rfl⟩
set_option maxRecDepth 100000 in
theorem fl_X7_58 : bq_FL RX7 58 0 2 := ⟨by decide, by decide, bq_mem (List.mem_of_getElem? (i := 180) (by decide +kernel)) rfl⟩
set_option maxRecDepth 100000 in
theorem fl_X8_273 : bq_FL RX8 273 0 2 := ⟨by decide, by decide, bq_mem (List.mem_of_getElem? (i := 181) (by decide +kernel)) rfl⟩
set_option maxRecDepth 100000 in
theorem fl_X6_11 : bq_FL RX6 11 6 0 := ⟨by decide, by decide, bq_mem (List.mem_of_getElem? (i := 200) (by decide +kernel)) rfl⟩
set_option maxRecDepth 100000 in
theorem fl_X6_30 : bq_FL RX6 30 6 1 := ⟨by decide, by decide, bq_mem (List.mem_of_getElem? (i := 201) (by decide +kernel)) rfl⟩
set_option maxRecDepth 100000 in
theorem fl_X8_108 : bq_FL RX8 108 6 1 := ⟨by decide, by decide, bq_mem (List.mem_of_getElem? (i := 202) (by decide +kernel)) rfl⟩
set_option maxRecDepth 100000 in
theorem fl_X6_16 : bq_FL RX6 16 6 2 := ⟨by decide, by decide, bq_mem (List.mem_of_getElem? (i := 203) (by decide +kernel)) rfl⟩
set_option maxRecDepth 100000 in
theorem fl_X4_9 : bq_FL RX4 9 4 0 := ⟨by decide, by decide, bq_mem (List.mem_of_getElem? (i := 217) (by decide +kernel)) rfl⟩
set_option maxRecDepth 100000 in
theorem fl_X4_13 : bq_FL RX4 13 4 1 := ⟨by decide, by decide, bq_mem (List.mem_of_getElem? (i := 218) (by decide +kernel)) rfl⟩
set_option maxRecDepth 100000 in
theorem fl_X4_16 : bq_FL RX4 16 4 2 := ⟨by decide, by decide, bq_mem (List.mem_of_getElem? (i := 219) (by decide +kernel)) rfl⟩
set_option maxRecDepth 100000 in
theorem fl_X8_105 : bq_FL RX8 105 4 2 := ⟨by decide, by decide, bq_mem (List.mem_of_getElem? (i := 220) (by decide +kernel)) rfl⟩
set_option maxRecDepth 100000 in
theorem fl_X1_13 : bq_FL RX1 13 1 0 := ⟨by decide, by decide, bq_mem (List.mem_of_getElem? (i := 235) (by decide +kernel)) rfl⟩
set_option maxRecDepth 100000 in
theorem fl_X1_7 : bq_FL RX1 7 1 1 := ⟨by decide, by decide, bq_mem (List.mem_of_getElem? (i := 236) (by decide +kernel)) rfl⟩
set_option maxRecDepth 100000 in
theorem fl_X2_7 : bq_FL RX2 7 2 0 := ⟨by decide, by decide, bq_mem (List.mem_of_getElem? (i := 248) (by decide +kernel)) rfl⟩
set_option maxRecDepth 100000 in
theorem fl_X8_276 : bq_FL RX8 276 2 0 := ⟨by decide, by decide, bq_mem (List.mem_of_getElem? (i := 249) (by decide +kernel)) rfl⟩
set_option maxRecDepth 100000 in
theorem fl_X8_10 : bq_FL RX8 10 8 0 := ⟨by decide, by decide, bq_mem (List.mem_of_getElem? (i := 254) (by decide +kernel)) rfl⟩
set_option maxRecDepth 100000 in
theorem fl_X8_19 : bq_FL RX8 19 8 1 := ⟨by decide, by decide, bq_mem (List.mem_of_getElem? (i := 255) (by decide +kernel)) rfl⟩
set_option maxRecDepth 100000 in
theorem fl_X8_26 : bq_FL RX8 26 8 2 := ⟨by decide, by decide, bq_mem (List.mem_of_getElem? (i := 256) (by decide +kernel)) rfl⟩
set_option maxRecDepth 100000 in
theorem fl_X8_30 : bq_FL RX8 30 8 3 := ⟨by decide, by decide, bq_mem (List.mem_of_getElem? (i := 257) (by decide +kernel)) rfl⟩
set_option maxRecDepth 100000 in
theorem fl_X8_36 : bq_FL RX8 36 8 4 := ⟨by decide, by decide, bq_mem (List.mem_of_getElem? (i := 258) (by decide +kernel)) rfl⟩
set_option maxRecDepth 100000 in
theorem fl_X8_40 : bq_FL RX8 40 8 5 := ⟨by decide, by decide, bq_mem (List.mem_of_getElem? (i := 259) (by decide +kernel)) rfl⟩
set_option maxRecDepth 100000 in
theorem fl_X8_46 : bq_FL RX8 46 8 6 := ⟨by decide, by decide, bq_mem (List.mem_of_getElem? (i := 260) (by decide +kernel)) rfl⟩
set_option maxRecDepth 100000 in
theorem fl_X8_50 : bq_FL RX8 50 8 7 := ⟨by decide, by decide, bq_mem (List.mem_of_getElem? (i := 261) (by decide +kernel)) rfl⟩
set_option maxRecDepth 100000 in
theorem fl_X8_54 : bq_FL RX8 54 8 8 := ⟨by decide, by decide, bq_mem (List.mem_of_getElem? (i := 262) (by decide +kernel)) rfl⟩
set_option maxRecDepth 100000 in
theorem fl_X8_61 : bq_FL RX8 61 8 9 := ⟨by decide, by decide, bq_mem (List.mem_of_getElem? (i := 263) (by decide +kernel)) rfl⟩
set_option maxRecDepth 100000 in
theorem fl_X8_68 : bq_FL RX8 68 8 10 := ⟨by decide, by decide, bq_mem (List.mem_of_getElem? (i := 264) (by decide +kernel)) rfl⟩
set_option maxRecDepth 100000 in
theorem fl_X8_72 : bq_FL RX8 72 8 11 := ⟨by decide, by decide, bq_mem (List.mem_of_getElem? (i := 265) (by decide +kernel)) rfl⟩
set_option maxRecDepth 100000 in
theorem fl_X8_79 : bq_FL RX8 79 8 12 := ⟨by decide, by decide, bq_mem (List.mem_of_getElem? (i := 266) (by decide +kernel)) rfl⟩
set_option maxRecDepth 100000 in
theorem fs_J0_38 : Cond.fieldLink RJ0 38 "java/lang/String" "COMPACT_STRINGS" "Z" ∈ bq_tbl := bq_mem (List.mem_of_getElem? (i := 346) (by decide +kernel)) rfl
set_option maxRecDepth 100000 in
theorem fs_J0_1053 : Cond.fieldLink RJ0 1053 "jdk/internal/util/Preconditions" "SIOOBE_FORMATTER" "Ljava/util/function/BiFunction;" ∈ bq_tbl := bq_mem (List.mem_of_getElem? (i := 387) (by decide +kernel)) rfl
set_option maxRecDepth 100000 in
theorem fs_J2_44 : Cond.fieldLink RJ2 44 "java/lang/StringUTF16" "$assertionsDisabled" "Z" ∈ bq_tbl := bq_mem (List.mem_of_getElem? (i := 398) (by decide +kernel)) rfl
set_option maxRecDepth 100000 in
theorem fs_J2_59 : Cond.fieldLink RJ2 59 "java/lang/StringUTF16" "HI_BYTE_SHIFT" "I" ∈ bq_tbl := bq_mem (List.mem_of_getElem? (i := 400) (by decide +kernel)) rfl
set_option maxRecDepth 100000 in
theorem fs_J2_63 : Cond.fieldLink RJ2 63 "java/lang/StringUTF16" "LO_BYTE_SHIFT" "I" ∈ bq_tbl := bq_mem (List.mem_of_getElem? (i := 402) (by decide +kernel)) rfl
set_option maxRecDepth 100000 in
theorem fs_X7_80 : Cond.fieldLink RX7 80 "BroomFlood$Reader" "LEAST" "[I" ∈ bq_tbl := bq_mem (List.mem_of_getElem? (i := 433) (by decide +kernel)) rfl
set_option maxRecDepth 100000 in
theorem fs_X7_83 : Cond.fieldLink RX7 83 "BroomFlood$Reader" "GREATEST" "[I" ∈ bq_tbl := bq_mem (List.mem_of_getElem? (i := 435) (by decide +kernel)) rfl
set_option maxRecDepth 100000 in
theorem fl_X9_164 : bq_FL RX9 164 9 0 := ⟨by decide, by decide, bq_mem (List.mem_of_getElem? (i := 801) (by decide +kernel)) rfl⟩
set_option maxRecDepth 100000 in
theorem fl_X9_7 : bq_FL RX9 7 9 1 := ⟨by decide, by decide, bq_mem (List.mem_of_getElem? (i := 802) (by decide +kernel)) rfl⟩
set_option maxRecDepth 100000 in
theorem fl_X9_53 : bq_FL RX9 53 9 2 := ⟨by decide, by decide, bq_mem (List.mem_of_getElem? (i := 803) (by decide +kernel)) rfl⟩
set_option maxRecDepth 100000 in
theorem fl_X9_13 : bq_FL RX9 13 9 3 := ⟨by decide, by decide, bq_mem (List.mem_of_getElem? (i := 804) (by decide +kernel)) rfl⟩
set_option maxRecDepth 100000 in
theorem fl_X9_16 : bq_FL RX9 16 9 4 := ⟨by decide, by decide, bq_mem (List.mem_of_getElem? (i := 805) (by decide +kernel)) rfl⟩
set_option maxRecDepth 100000 in
theorem fl_X9_19 : bq_FL RX9 19 9 5 := ⟨by decide, by decide, bq_mem (List.mem_of_getElem? (i := 806) (by decide +kernel)) rfl⟩
set_option maxRecDepth 100000 in
theorem fl_X9_22 : bq_FL RX9 22 9 6 := ⟨by decide, by decide, bq_mem (List.mem_of_getElem? (i := 807) (by decide +kernel)) rfl⟩
set_option maxRecDepth 100000 in
theorem fl_X9_95 : bq_FL RX9 95 9 7 := ⟨by decide, by decide, bq_mem (List.mem_of_getElem? (i := 808) (by decide +kernel)) rfl⟩
set_option maxRecDepth 100000 in
theorem fl_X9_25 : bq_FL RX9 25 9 8 := ⟨by decide, by decide, bq_mem (List.mem_of_getElem? (i := 809) (by decide +kernel)) rfl⟩
set_option maxRecDepth 100000 in
theorem fl_X9_28 : bq_FL RX9 28 9 9 := ⟨by decide, by decide, bq_mem (List.mem_of_getElem? (i := 810) (by decide +kernel)) rfl⟩
set_option maxRecDepth 100000 in
theorem fl_X9_32 : bq_FL RX9 32 9 10 := ⟨by decide, by decide, bq_mem (List.mem_of_getElem? (i := 811) (by decide +kernel)) rfl⟩
set_option maxRecDepth 100000 in
theorem fl_X9_98 : bq_FL RX9 98 9 11 := ⟨by decide, by decide, bq_mem (List.mem_of_getElem? (i := 812) (by decide +kernel)) rfl⟩
set_option maxRecDepth 100000 in
theorem fl_X9_57 : bq_FL RX9 57 9 12 := ⟨by decide, by decide, bq_mem (List.mem_of_getElem? (i := 813) (by decide +kernel)) rfl⟩
set_option maxRecDepth 100000 in
theorem fl_X9_73 : bq_FL RX9 73 9 13 := ⟨by decide, by decide, bq_mem (List.mem_of_getElem? (i := 814) (by decide +kernel)) rfl⟩
set_option maxRecDepth 100000 in
theorem fl_X9_64 : bq_FL RX9 64 9 14 := ⟨by decide, by decide, bq_mem (List.mem_of_getElem? (i := 815) (by decide +kernel)) rfl⟩
set_option maxRecDepth 100000 in
theorem fl_X9_76 : bq_FL RX9 76 9 15 := ⟨by decide, by decide, bq_mem (List.mem_of_getElem? (i := 816) (by decide +kernel)) rfl⟩
set_option maxRecDepth 100000 in
theorem fl_X9_104 : bq_FL RX9 104 9 16 := ⟨by decide, by decide, bq_mem (List.mem_of_getElem? (i := 817) (by decide +kernel)) rfl⟩
set_option maxRecDepth 100000 in
theorem fl_X9_111 : bq_FL RX9 111 9 17 := ⟨by decide, by decide, bq_mem (List.mem_of_getElem? (i := 818) (by decide +kernel)) rfl⟩
set_option maxRecDepth 100000 in
theorem fl_X9_114 : bq_FL RX9 114 9 18 := ⟨by decide, by decide, bq_mem (List.mem_of_getElem? (i := 819) (by decide +kernel)) rfl⟩
set_option maxRecDepth 100000 in
theorem fl_X9_35 : bq_FL RX9 35 9 19 := ⟨by decide, by decide, bq_mem (List.mem_of_getElem? (i := 820) (by decide +kernel)) rfl⟩
set_option maxRecDepth 100000 in
theorem fs_J0_15 : Cond.fieldLink RJ0 15 "java/lang/String" "coder" "B" ∈ bq_tbl := bq_mem (List.mem_of_getElem? (i := 1063) (by decide +kernel)) rfl
set_option maxRecDepth 100000 in
theorem fs_J0_9 : Cond.fieldLink RJ0 9 "java/lang/String" "value" "[B" ∈ bq_tbl := bq_mem (List.mem_of_getElem? (i := 1064) (by decide +kernel)) rfl
set_option maxRecDepth 100000 in
theorem wk_J2_227 : Cond.constant RJ2 227 (65536) ∈ bq_tbl := bq_mem (List.mem_of_getElem? (i := 374) (by decide +kernel)) rfl
set_option maxRecDepth 100000 in
theorem wk_J11_110 : Cond.constant RJ11 110 (55232) ∈ bq_tbl := bq_mem (List.mem_of_getElem? (i := 413) (by decide +kernel)) rfl
set_option maxRecDepth 100000 in
theorem wk_J11_76 : Cond.constant RJ11 76 (56320) ∈ bq_tbl := bq_mem (List.mem_of_getElem? (i := 417) (by decide +kernel)) rfl
set_option maxRecDepth 100000 in
theorem wk_X5_73 : Cond.constant RX5 73 (99999) ∈ bq_tbl := bq_mem (List.mem_of_getElem? (i := 516) (by decide +kernel)) rfl
set_option maxRecDepth 100000 in
theorem wk_J6_265 : Cond.constant RJ6 265 (1431655765) ∈ bq_tbl := bq_mem (List.mem_of_getElem? (i := 560) (by decide +kernel)) rfl
set_option maxRecDepth 100000 in
theorem wk_J6_266 : Cond.constant RJ6 266 (858993459) ∈ bq_tbl := bq_mem (List.mem_of_getElem? (i := 561) (by decide +kernel)) rfl
set_option maxRecDepth 100000 in
theorem wk_J6_267 : Cond.constant RJ6 267 (252645135) ∈ bq_tbl := bq_mem (List.mem_of_getElem? (i := 562) (by decide +kernel)) rfl
set_option maxRecDepth 100000 in
theorem wk_X8_230 : Cond.constant RX8 230 (99999) ∈ bq_tbl := bq_mem (List.mem_of_getElem? (i := 667) (by decide +kernel)) rfl
set_option maxRecDepth 100000 in
theorem wk_X8_244 : Cond.constant RX8 244 (-1000000) ∈ bq_tbl := bq_mem (List.mem_of_getElem? (i := 696) (by decide +kernel)) rfl
set_option maxRecDepth 100000 in
theorem wk_X9_110 : Cond.constant RX9 110 (99999) ∈ bq_tbl := bq_mem (List.mem_of_getElem? (i := 909) (by decide +kernel)) rfl
set_option maxRecDepth 100000 in
theorem wk_X9_163 : Cond.constant RX9 163 (-1000000) ∈ bq_tbl := bq_mem (List.mem_of_getElem? (i := 1037) (by decide +kernel)) rfl
set_option maxRecDepth 100000 in
theorem wk_X8_208 : Cond.constantLong RX8 208 (-1000000) ∈ bq_tbl := bq_mem (List.mem_of_getElem? (i := 630) (by decide +kernel)) rfl
set_option maxRecDepth 100000 in
theorem wk_X8_249 : Cond.constantLong RX8 249 (10) ∈ bq_tbl := bq_mem (List.mem_of_getElem? (i := 701) (by decide +kernel)) rfl
set_option maxRecDepth 100000 in
theorem wk_X2_13 : Cond.constantLong RX2 13 (10) ∈ bq_tbl := bq_mem (List.mem_of_getElem? (i := 714) (by decide +kernel)) rfl
set_option maxRecDepth 100000 in
theorem wk_X2_19 : Cond.constantLong RX2 19 (100) ∈ bq_tbl := bq_mem (List.mem_of_getElem? (i := 720) (by decide +kernel)) rfl
set_option maxRecDepth 100000 in
theorem wk_X2_21 : Cond.constantLong RX2 21 (1000) ∈ bq_tbl := bq_mem (List.mem_of_getElem? (i := 725) (by decide +kernel)) rfl
set_option maxRecDepth 100000 in
theorem wk_X2_27 : Cond.constantLong RX2 27 (10000) ∈ bq_tbl := bq_mem (List.mem_of_getElem? (i := 731) (by decide +kernel)) rfl
set_option maxRecDepth 100000 in
theorem wk_X2_32 : Cond.constantLong RX2 32 (100000) ∈ bq_tbl := bq_mem (List.mem_of_getElem? (i := 737) (by decide +kernel)) rfl
set_option maxRecDepth 100000 in
theorem wk_X9_154 : Cond.constantLong RX9 154 (-1000000) ∈ bq_tbl := bq_mem (List.mem_of_getElem? (i := 1001) (by decide +kernel)) rfl
set_option maxRecDepth 100000 in
theorem wk_X9_168 : Cond.constantLong RX9 168 (11) ∈ bq_tbl := bq_mem (List.mem_of_getElem? (i := 1042) (by decide +kernel)) rfl
set_option maxRecDepth 100000 in
theorem wk_X9_170 : Cond.constantLong RX9 170 (101) ∈ bq_tbl := bq_mem (List.mem_of_getElem? (i := 1043) (by decide +kernel)) rfl
set_option maxRecDepth 100000 in
theorem wk_X9_172 : Cond.constantLong RX9 172 (1011) ∈ bq_tbl := bq_mem (List.mem_of_getElem? (i := 1044) (by decide +kernel)) rfl
set_option maxRecDepth 100000 in
theorem wk_X9_174 : Cond.constantLong RX9 174 (10101) ∈ bq_tbl := bq_mem (List.mem_of_getElem? (i := 1045) (by decide +kernel)) rfl
set_option maxRecDepth 100000 in
theorem wk_X9_176 : Cond.constantLong RX9 176 (100001) ∈ bq_tbl := bq_mem (List.mem_of_getElem? (i := 1046) (by decide +kernel)) rfl
set_option maxRecDepth 100000 in
theorem wl_L_7 : Cond.classLink RL 7 RX8 ∈ bq_tbl := bq_mem (List.mem_of_getElem? (i := 54) (by decide +kernel)) rfl
set_option maxRecDepth 100000 in
theorem wl_X8_7 : Cond.classLink RX8 7 RX3 ∈ bq_tbl := bq_mem (List.mem_of_getElem? (i := 62) (by decide +kernel)) rfl
set_option maxRecDepth 100000 in
theorem wl_X8_16 : Cond.classLink RX8 16 RX7 ∈ bq_tbl := bq_mem (List.mem_of_getElem? (i := 77) (by decide +kernel)) rfl
set_option maxRecDepth 100000 in
theorem wl_X8_23 : Cond.classLink RX8 23 RX0 ∈ bq_tbl := bq_mem (List.mem_of_getElem? (i := 102) (by decide +kernel)) rfl
set_option maxRecDepth 100000 in
theorem wl_X0_13 : Cond.classLink RX0 13 RX5 ∈ bq_tbl := bq_mem (List.mem_of_getElem? (i := 108) (by decide +kernel)) rfl
set_option maxRecDepth 100000 in
theorem wl_X8_33 : Cond.classLink RX8 33 RX5 ∈ bq_tbl := bq_mem (List.mem_of_getElem? (i := 189) (by decide +kernel)) rfl
set_option maxRecDepth 100000 in
theorem wl_X8_43 : Cond.classLink RX8 43 RX6 ∈ bq_tbl := bq_mem (List.mem_of_getElem? (i := 191) (by decide +kernel)) rfl
set_option maxRecDepth 100000 in
theorem wl_X6_9 : Cond.classLink RX6 9 RX5 ∈ bq_tbl := bq_mem (List.mem_of_getElem? (i := 197) (by decide +kernel)) rfl
set_option maxRecDepth 100000 in
theorem wl_X8_58 : Cond.classLink RX8 58 RX4 ∈ bq_tbl := bq_mem (List.mem_of_getElem? (i := 211) (by decide +kernel)) rfl
set_option maxRecDepth 100000 in
theorem wl_X8_65 : Cond.classLink RX8 65 RX1 ∈ bq_tbl := bq_mem (List.mem_of_getElem? (i := 229) (by decide +kernel)) rfl
set_option maxRecDepth 100000 in
theorem wl_X8_76 : Cond.classLink RX8 76 RX2 ∈ bq_tbl := bq_mem (List.mem_of_getElem? (i := 242) (by decide +kernel)) rfl
set_option maxRecDepth 100000 in
theorem wl_L_10 : Cond.classLink RL 10 RX9 ∈ bq_tbl := bq_mem (List.mem_of_getElem? (i := 754) (by decide +kernel)) rfl
set_option maxRecDepth 100000 in
theorem wa_X8 : Cond.instantiable RX8 13 ∈ bq_tbl := bq_mem (List.mem_of_getElem? (i := 55) (by decide +kernel)) rfl
set_option maxRecDepth 100000 in
theorem wa_X3 : Cond.instantiable RX3 2 ∈ bq_tbl := bq_mem (List.mem_of_getElem? (i := 63) (by decide +kernel)) rfl
set_option maxRecDepth 100000 in
theorem wa_X7 : Cond.instantiable RX7 6 ∈ bq_tbl := bq_mem (List.mem_of_getElem? (i := 78) (by decide +kernel)) rfl
set_option maxRecDepth 100000 in
theorem wa_X0 : Cond.instantiable RX0 3 ∈ bq_tbl := bq_mem (List.mem_of_getElem? (i := 103) (by decide +kernel)) rfl
set_option maxRecDepth 100000 in
theorem wa_X5 : Cond.instantiable RX5 12 ∈ bq_tbl := bq_mem (List.mem_of_getElem? (i := 109) (by decide +kernel)) rfl
set_option maxRecDepth 100000 in
theorem wa_X6 : Cond.instantiable RX6 3 ∈ bq_tbl := bq_mem (List.mem_of_getElem? (i := 192) (by decide +kernel)) rfl
set_option maxRecDepth 100000 in
theorem wa_X4 : Cond.instantiable RX4 3 ∈ bq_tbl := bq_mem (List.mem_of_getElem? (i := 212) (by decide +kernel)) rfl
set_option maxRecDepth 100000 in
theorem wa_X1 : Cond.instantiable RX1 2 ∈ bq_tbl := bq_mem (List.mem_of_getElem? (i := 230) (by decide +kernel)) rfl
set_option maxRecDepth 100000 in
theorem wa_X2 : Cond.instantiable RX2 1 ∈ bq_tbl := bq_mem (List.mem_of_getElem? (i := 243) (by decide +kernel)) rfl
set_option maxRecDepth 100000 in
theorem wa_X9 : Cond.instantiable RX9 20 ∈ bq_tbl := bq_mem (List.mem_of_getElem? (i := 755) (by decide +kernel)) rfl
set_option maxRecDepth 100000 in
theorem wn_obj : Cond.instanceMethod Lib.objectInit ∈ bq_tbl := bq_mem (List.mem_of_getElem? (i := 60) (by decide +kernel)) rfl
set_option maxRecDepth 100000 in
theorem wc_obj : Cond.code Lib.objectInit ⟨#[0xb1]⟩ 1 none ∈ bq_tbl := bq_mem (List.mem_of_getElem? (i := 61) (by decide +kernel)) rfl
set_option maxRecDepth 100000 in
theorem wy_int : Cond.arrayClass .int ∈ bq_tbl := bq_mem (List.mem_of_getElem? (i := 76) (by decide +kernel)) rfl
set_option maxRecDepth 100000 in
theorem wy_boolean : Cond.arrayClass .boolean ∈ bq_tbl := bq_mem (List.mem_of_getElem? (i := 228) (by decide +kernel)) rfl
set_option maxRecDepth 100000 in
theorem wy_long : Cond.arrayClass .long ∈ bq_tbl := bq_mem (List.mem_of_getElem? (i := 253) (by decide +kernel)) rfl
set_option maxRecDepth 100000 in
theorem wy_byte : Cond.arrayClass .byte ∈ bq_tbl := bq_mem (List.mem_of_getElem? (i := 466) (by decide +kernel)) rfl
set_option maxRecDepth 100000 in
theorem cl_L_9 : bq_CI RL 9 MX8_init 0 := ⟨⟨bq_mem (List.mem_of_getElem? (i := 56) (by decide +kernel)) rfl, wi_X8, wc_X8_init, by decide, by decide, by decide +kernel⟩, rfl, wn_X8_init⟩
set_option maxRecDepth 100000 in
theorem wm_X8_1 : Cond.methodLink RX8 1 Lib.objectInit ∈ bq_tbl := bq_mem (List.mem_of_getElem? (i := 59) (by decide +kernel)) rfl
set_option maxRecDepth 100000 in
theorem cl_X8_9 : bq_CI RX8 9 MX3_init 0 := ⟨⟨bq_mem (List.mem_of_getElem? (i := 64) (by decide +kernel)) rfl, wi_X3, wc_X3_init, by decide, by decide, by decide +kernel⟩, rfl, wn_X3_init⟩
set_option maxRecDepth 100000 in
theorem wm_X3_1 : Cond.methodLink RX3 1 Lib.objectInit ∈ bq_tbl := bq_mem (List.mem_of_getElem? (i := 67) (by decide +kernel)) rfl
set_option maxRecDepth 100000 in
theorem cl_X8_18 : bq_CI RX8 18 MX7_init 0 := ⟨⟨bq_mem (List.mem_of_getElem? (i := 79) (by decide +kernel)) rfl, wi_X7, wc_X7_init, by decide, by decide, by decide +kernel⟩, rfl, wn_X7_init⟩
set_option maxRecDepth 100000 in
theorem wm_X7_3 : Cond.methodLink RX7 3 Lib.objectInit ∈ bq_tbl := bq_mem (List.mem_of_getElem? (i := 82) (by decide +kernel)) rfl
set_option maxRecDepth 100000 in
theorem cl_X8_25 : bq_CI RX8 25 MX0_init 0 := ⟨⟨bq_mem (List.mem_of_getElem? (i := 104) (by decide +kernel)) rfl, wi_X0, wc_X0_init, by decide, by decide, by decide +kernel⟩, rfl, wn_X0_init⟩
set_option maxRecDepth 100000 in
theorem wm_X0_1 : Cond.methodLink RX0 1 Lib.objectInit ∈ bq_tbl := bq_mem (List.mem_of_getElem? (i := 107) (by decide +kernel)) rfl
set_option maxRecDepth 100000 in
theorem cl_X0_15 : bq_CI RX0 15 MX5_init 0 := ⟨⟨bq_mem (List.mem_of_getElem? (i := 110) (by decide +kernel)) rfl, wi_X5, wc_X5_init, by decide, by decide, by decide +kernel⟩, rfl, wn_X5_init⟩
set_option maxRecDepth 100000 in
theorem wm_X5_3 : Cond.methodLink RX5 3 Lib.objectInit ∈ bq_tbl := bq_mem (List.mem_of_getElem? (i := 113) (by decide +kernel)) rfl
set_option maxRecDepth 100000 in
theorem cl_X0_20 : bq_CV RX0 20 MX0_tellNothing 0 0 := ⟨⟨bq_mem (List.mem_of_getElem? (i := 165) (by decide +kernel)) rfl, wi_X0, wc_X0_tellNothing, by decide, by decide, by decide +kernel⟩, wn_X0_tellNothing, ws_X0_tellNothing, by decide, rfl⟩
set_option maxRecDepth 100000 in
theorem cl_X0_30 : bq_CV RX0 30 MX5_empty 0 5 := ⟨⟨bq_mem (List.mem_of_getElem? (i := 171) (by decide +kernel)) rfl, wi_X5, wc_X5_empty, by decide, by decide, by decide +kernel⟩, wn_X5_empty, ws_X5_empty, by decide, rfl⟩
set_option maxRecDepth 100000 in
theorem cl_X8_35 : bq_CI RX8 35 MX5_init 0 := ⟨⟨bq_mem (List.mem_of_getElem? (i := 190) (by decide +kernel)) rfl, wi_X5, wc_X5_init, by decide, by decide, by decide +kernel⟩, rfl, wn_X5_init⟩
set_option maxRecDepth 100000 in
theorem cl_X8_45 : bq_CI RX8 45 MX6_init 0 := ⟨⟨bq_mem (List.mem_of_getElem? (i := 193) (by decide +kernel)) rfl, wi_X6, wc_X6_init, by decide, by decide, by decide +kernel⟩, rfl, wn_X6_init⟩
set_option maxRecDepth 100000 in
theorem wm_X6_1 : Cond.methodLink RX6 1 Lib.objectInit ∈ bq_tbl := bq_mem (List.mem_of_getElem? (i := 196) (by decide +kernel)) rfl
set_option maxRecDepth 100000 in
theorem cl_X6_15 : bq_CI RX6 15 MX5_init 0 := ⟨⟨bq_mem (List.mem_of_getElem? (i := 199) (by decide +kernel)) rfl, wi_X5, wc_X5_init, by decide, by decide, by decide +kernel⟩, rfl, wn_X5_init⟩
set_option maxRecDepth 100000 in
theorem cl_X8_60 : bq_CI RX8 60 MX4_init 0 := ⟨⟨bq_mem (List.mem_of_getElem? (i := 213) (by decide +kernel)) rfl, wi_X4, wc_X4_init, by decide, by decide, by decide +kernel⟩, rfl, wn_X4_init⟩
set_option maxRecDepth 100000 in
theorem wm_X4_1 : Cond.methodLink RX4 1 Lib.objectInit ∈ bq_tbl := bq_mem (List.mem_of_getElem? (i := 216) (by decide +kernel)) rfl
set_option maxRecDepth 100000 in
theorem wm_X1_1 : Cond.methodLink RX1 1 Lib.objectInit ∈ bq_tbl := bq_mem (List.mem_of_getElem? (i := 234) (by decide +kernel)) rfl
set_option maxRecDepth 100000 in
theorem wm_X2_1 : Cond.methodLink RX2 1 Lib.objectInit ∈ bq_tbl := bq_mem (List.mem_of_getElem? (i := 247) (by decide +kernel)) rfl
set_option maxRecDepth 100000 in
theorem cl_L_13 : bq_CV RL 13 MX8_type 1 8 := ⟨⟨bq_mem (List.mem_of_getElem? (i := 294) (by decide +kernel)) rfl, wi_X8, wc_X8_type, by decide, by decide, by decide +kernel⟩, wn_X8_type, ws_X8_type, by decide, rfl⟩
set_option maxRecDepth 100000 in
theorem cl_X8_83 : bq_CV RX8 83 MX3_add 1 3 := ⟨⟨bq_mem (List.mem_of_getElem? (i := 298) (by decide +kernel)) rfl, wi_X3, wc_X3_add, by decide, by decide, by decide +kernel⟩, wn_X3_add, ws_X3_add, by decide, rfl⟩
set_option maxRecDepth 100000 in
theorem cl_L_18 : bq_CV RL 18 MX8_clear 0 8 := ⟨⟨bq_mem (List.mem_of_getElem? (i := 302) (by decide +kernel)) rfl, wi_X8, wc_X8_clear, by decide, by decide, by decide +kernel⟩, wn_X8_clear, ws_X8_clear, by decide, rfl⟩
set_option maxRecDepth 100000 in
theorem cl_L_23 : bq_CV RL 23 MX8_cellar 0 8 := ⟨⟨bq_mem (List.mem_of_getElem? (i := 306) (by decide +kernel)) rfl, wi_X8, wc_X8_cellar, by decide, by decide, by decide +kernel⟩, wn_X8_cellar, ws_X8_cellar, by decide, rfl⟩
set_option maxRecDepth 100000 in
theorem cl_X8_91 : bq_CV RX8 91 MX7_read 2 7 := ⟨⟨bq_mem (List.mem_of_getElem? (i := 310) (by decide +kernel)) rfl, wi_X7, wc_X7_read, by decide, by decide, by decide +kernel⟩, wn_X7_read, ws_X7_read, by decide, rfl⟩
set_option maxRecDepth 100000 in
theorem cl_X7_15 : bq_CV RX7 15 MX0_tellNothing 0 0 := ⟨⟨bq_mem (List.mem_of_getElem? (i := 314) (by decide +kernel)) rfl, wi_X0, wc_X0_tellNothing, by decide, by decide, by decide +kernel⟩, wn_X0_tellNothing, ws_X0_tellNothing, by decide, rfl⟩
set_option maxRecDepth 100000 in
theorem cl_X7_27 : bq_CV RX7 27 MX7_step 1 7 := ⟨⟨bq_mem (List.mem_of_getElem? (i := 315) (by decide +kernel)) rfl, wi_X7, wc_X7_step, by decide, by decide, by decide +kernel⟩, wn_X7_step, ws_X7_step, by decide, rfl⟩
set_option maxRecDepth 100000 in
theorem cl_X7_86 : bq_CV RX7 86 MX3_at 1 3 := ⟨⟨bq_mem (List.mem_of_getElem? (i := 319) (by decide +kernel)) rfl, wi_X3, wc_X3_at, by decide, by decide, by decide +kernel⟩, wn_X3_at, ws_X3_at, by decide, rfl⟩
set_option maxRecDepth 100000 in
theorem cl_X7_89 : bq_CS RX7 89 MX7_isDigit 1 := ⟨⟨bq_mem (List.mem_of_getElem? (i := 323) (by decide +kernel)) rfl, wi_X7, wc_X7_isDigit, by decide, by decide, by decide +kernel⟩, wt_X7_isDigit⟩
set_option maxRecDepth 100000 in
theorem cl_X7_92 : bq_CV RX7 92 MX7_stepOverNumber 1 7 := ⟨⟨bq_mem (List.mem_of_getElem? (i := 326) (by decide +kernel)) rfl, wi_X7, wc_X7_stepOverNumber, by decide, by decide, by decide +kernel⟩, wn_X7_stepOverNumber, ws_X7_stepOverNumber, by decide, rfl⟩
set_option maxRecDepth 100000 in
theorem cl_X7_95 : bq_CS RX7 95 MJ9_min_7cf53 2 := ⟨⟨bq_mem (List.mem_of_getElem? (i := 330) (by decide +kernel)) rfl, wi_J9, wc_J9_min_7cf53, by decide, by decide, by decide +kernel⟩, wt_J9_min_7cf53⟩
set_option maxRecDepth 100000 in
theorem cb_X7_38 : bq_CB RX7 38 MJ0_indexOf_0f7a4 1 := ⟨bq_mem (List.mem_of_getElem? (i := 334) (by decide +kernel)) rfl, wi_J0, wc_J0_indexOf_0f7a4, by decide, by decide, by decide +kernel⟩
set_option maxRecDepth 100000 in
theorem cb_J0_633 : bq_CB RJ0 633 MJ0_indexOf_7cf53 2 := ⟨bq_mem (List.mem_of_getElem? (i := 338) (by decide +kernel)) rfl, wi_J0, wc_J0_indexOf_7cf53, by decide, by decide, by decide +kernel⟩
set_option maxRecDepth 100000 in
theorem cb_J0_492 : bq_CB RJ0 492 MJ0_isLatin1_aae02 0 := ⟨bq_mem (List.mem_of_getElem? (i := 342) (by decide +kernel)) rfl, wi_J0, wc_J0_isLatin1_aae02, by decide, by decide, by decide +kernel⟩
set_option maxRecDepth 100000 in
theorem cb_J0_505 : bq_CB RJ0 505 MJ0_length_8abf5 0 := ⟨bq_mem (List.mem_of_getElem? (i := 348) (by decide +kernel)) rfl, wi_J0, wc_J0_length_8abf5, by decide, by decide, by decide +kernel⟩
set_option maxRecDepth 100000 in
theorem cb_J0_335 : bq_CB RJ0 335 MJ0_coder_7d493 0 := ⟨bq_mem (List.mem_of_getElem? (i := 352) (by decide +kernel)) rfl, wi_J0, wc_J0_coder_7d493, by decide, by decide, by decide +kernel⟩
set_option maxRecDepth 100000 in
theorem cl_J0_637 : bq_CS RJ0 637 MJ1_indexOf_4cfef 4 := ⟨⟨bq_mem (List.mem_of_getElem? (i := 356) (by decide +kernel)) rfl, wi_J1, wc_J1_indexOf_4cfef, by decide, by decide, by decide +kernel⟩, wt_J1_indexOf_4cfef⟩
set_option maxRecDepth 100000 in
theorem cl_J1_88 : bq_CS RJ1 88 MJ1_canEncode_9a6ad 1 := ⟨⟨bq_mem (List.mem_of_getElem? (i := 359) (by decide +kernel)) rfl, wi_J1, wc_J1_canEncode_9a6ad, by decide, by decide, by decide +kernel⟩, wt_J1_canEncode_9a6ad⟩
set_option maxRecDepth 100000 in
theorem cl_J1_92 : bq_CS RJ1 92 MJ9_max_7cf53 2 := ⟨⟨bq_mem (List.mem_of_getElem? (i := 362) (by decide +kernel)) rfl, wi_J9, wc_J9_max_7cf53, by decide, by decide, by decide +kernel⟩, wt_J9_max_7cf53⟩
set_option maxRecDepth 100000 in
theorem cl_J1_38 : bq_CS RJ1 38 MJ9_min_7cf53 2 := ⟨⟨bq_mem (List.mem_of_getElem? (i := 365) (by decide +kernel)) rfl, wi_J9, wc_J9_min_7cf53, by decide, by decide, by decide +kernel⟩, wt_J9_min_7cf53⟩
set_option maxRecDepth 100000 in
theorem cl_J1_95 : bq_CS RJ1 95 MJ1_indexOfChar_4cfef 4 := ⟨⟨bq_mem (List.mem_of_getElem? (i := 366) (by decide +kernel)) rfl, wi_J1, wc_J1_indexOfChar_4cfef, by decide, by decide, by decide +kernel⟩, wt_J1_indexOfChar_4cfef⟩
set_option maxRecDepth 100000 in
theorem cl_J0_640 : bq_CS RJ0 640 MJ2_indexOf_4cfef 4 := ⟨⟨bq_mem (List.mem_of_getElem? (i := 369) (by decide +kernel)) rfl, wi_J2, wc_J2_indexOf_4cfef, by decide, by decide, by decide +kernel⟩, wt_J2_indexOf_4cfef⟩
set_option maxRecDepth 100000 in
theorem cl_J2_224 : bq_CS RJ2 224 MJ9_max_7cf53 2 := ⟨⟨bq_mem (List.mem_of_getElem? (i := 372) (by decide +kernel)) rfl, wi_J9, wc_J9_max_7cf53, by decide, by decide, by decide +kernel⟩, wt_J9_max_7cf53⟩
set_option maxRecDepth 100000 in
theorem cl_J2_183 : bq_CS RJ2 183 MJ9_min_7cf53 2 := ⟨⟨bq_mem (List.mem_of_getElem? (i := 373) (by decide +kernel)) rfl, wi_J9, wc_J9_min_7cf53, by decide, by decide, by decide +kernel⟩, wt_J9_min_7cf53⟩
set_option maxRecDepth 100000 in
theorem cl_J2_228 : bq_CS RJ2 228 MJ2_indexOfChar_4cfef 4 := ⟨⟨bq_mem (List.mem_of_getElem? (i := 375) (by decide +kernel)) rfl, wi_J2, wc_J2_indexOfChar_4cfef, by decide, by decide, by decide +kernel⟩, wt_J2_indexOfChar_4cfef⟩
set_option maxRecDepth 100000 in
theorem cl_J2_96 : bq_CS RJ2 96 MJ2_checkBoundsBeginEnd_d044e 3 := ⟨⟨bq_mem (List.mem_of_getElem? (i := 378) (by decide +kernel)) rfl, wi_J2, wc_J2_checkBoundsBeginEnd_d044e, by decide, by decide, by decide +kernel⟩, wt_J2_checkBoundsBeginEnd_d044e⟩
set_option maxRecDepth 100000 in
theorem cl_J2_48 : bq_CS RJ2 48 MJ2_length_9d52b 1 := ⟨⟨bq_mem (List.mem_of_getElem? (i := 381) (by decide +kernel)) rfl, wi_J2, wc_J2_length_9d52b, by decide, by decide, by decide +kernel⟩, wt_J2_length_9d52b⟩
set_option maxRecDepth 100000 in
theorem cl_J2_241 : bq_CS RJ2 241 MJ0_checkBoundsBeginEnd_23922 3 := ⟨⟨bq_mem (List.mem_of_getElem? (i := 384) (by decide +kernel)) rfl, wi_J0, wc_J0_checkBoundsBeginEnd_23922, by decide, by decide, by decide +kernel⟩, wt_J0_checkBoundsBeginEnd_23922⟩
set_option maxRecDepth 100000 in
theorem cl_J0_1062 : bq_CS RJ0 1062 MJ3_checkFromToIndex_8c36e 4 := ⟨⟨bq_mem (List.mem_of_getElem? (i := 389) (by decide +kernel)) rfl, wi_J3, wc_J3_checkFromToIndex_8c36e, by decide, by decide, by decide +kernel⟩, wt_J3_checkFromToIndex_8c36e⟩
set_option maxRecDepth 100000 in
theorem cl_J2_244 : bq_CS RJ2 244 MJ2_indexOfCharUnsafe_4cfef 4 := ⟨⟨bq_mem (List.mem_of_getElem? (i := 392) (by decide +kernel)) rfl, wi_J2, wc_J2_indexOfCharUnsafe_4cfef, by decide, by decide, by decide +kernel⟩, wt_J2_indexOfCharUnsafe_4cfef⟩
set_option maxRecDepth 100000 in
theorem cl_J2_71 : bq_CS RJ2 71 MJ2_getChar_3b067 2 := ⟨⟨bq_mem (List.mem_of_getElem? (i := 395) (by decide +kernel)) rfl, wi_J2, wc_J2_getChar_3b067, by decide, by decide, by decide +kernel⟩, wt_J2_getChar_3b067⟩
set_option maxRecDepth 100000 in
theorem cl_J2_232 : bq_CS RJ2 232 MJ2_indexOfSupplementary_4cfef 4 := ⟨⟨bq_mem (List.mem_of_getElem? (i := 404) (by decide +kernel)) rfl, wi_J2, wc_J2_indexOfSupplementary_4cfef, by decide, by decide, by decide +kernel⟩, wt_J2_indexOfSupplementary_4cfef⟩
set_option maxRecDepth 100000 in
theorem cl_J2_164 : bq_CS RJ2 164 MJ11_isValidCodePoint_9a6ad 1 := ⟨⟨bq_mem (List.mem_of_getElem? (i := 407) (by decide +kernel)) rfl, wi_J11, wc_J11_isValidCodePoint_9a6ad, by decide, by decide, by decide +kernel⟩, wt_J11_isValidCodePoint_9a6ad⟩
set_option maxRecDepth 100000 in
theorem cl_J2_157 : bq_CS RJ2 157 MJ11_highSurrogate_5068e 1 := ⟨⟨bq_mem (List.mem_of_getElem? (i := 410) (by decide +kernel)) rfl, wi_J11, wc_J11_highSurrogate_5068e, by decide, by decide, by decide +kernel⟩, wt_J11_highSurrogate_5068e⟩
set_option maxRecDepth 100000 in
theorem cl_J2_161 : bq_CS RJ2 161 MJ11_lowSurrogate_5068e 1 := ⟨⟨bq_mem (List.mem_of_getElem? (i := 414) (by decide +kernel)) rfl, wi_J11, wc_J11_lowSurrogate_5068e, by decide, by decide, by decide +kernel⟩, wt_J11_lowSurrogate_5068e⟩
set_option maxRecDepth 100000 in
theorem cl_X7_44 : bq_CV RX7 44 MX7_isOneTooMany 2 7 := ⟨⟨bq_mem (List.mem_of_getElem? (i := 418) (by decide +kernel)) rfl, wi_X7, wc_X7_isOneTooMany, by decide, by decide, by decide +kernel⟩, wn_X7_isOneTooMany, ws_X7_isOneTooMany, by decide, rfl⟩
set_option maxRecDepth 100000 in
theorem cl_X7_48 : bq_CV RX7 48 MX7_readItem 3 7 := ⟨⟨bq_mem (List.mem_of_getElem? (i := 425) (by decide +kernel)) rfl, wi_X7, wc_X7_readItem, by decide, by decide, by decide +kernel⟩, wn_X7_readItem, ws_X7_readItem, by decide, rfl⟩
set_option maxRecDepth 100000 in
theorem cl_X7_65 : bq_CV RX7 65 MX7_isWithin 1 7 := ⟨⟨bq_mem (List.mem_of_getElem? (i := 429) (by decide +kernel)) rfl, wi_X7, wc_X7_isWithin, by decide, by decide, by decide +kernel⟩, wn_X7_isWithin, ws_X7_isWithin, by decide, rfl⟩
set_option maxRecDepth 100000 in
theorem cl_X7_72 : bq_CV RX7 72 MX0_tellBroom 3 0 := ⟨⟨bq_mem (List.mem_of_getElem? (i := 437) (by decide +kernel)) rfl, wi_X0, wc_X0_tellBroom, by decide, by decide, by decide +kernel⟩, wn_X0_tellBroom, ws_X0_tellBroom, by decide, rfl⟩
set_option maxRecDepth 100000 in
theorem cl_X0_37 : bq_CV RX0 37 MX5_place 4 5 := ⟨⟨bq_mem (List.mem_of_getElem? (i := 441) (by decide +kernel)) rfl, wi_X5, wc_X5_place, by decide, by decide, by decide +kernel⟩, wn_X5_place, ws_X5_place, by decide, rfl⟩
set_option maxRecDepth 100000 in
theorem cl_X7_76 : bq_CV RX7 76 MX0_tellSetting 2 0 := ⟨⟨bq_mem (List.mem_of_getElem? (i := 445) (by decide +kernel)) rfl, wi_X0, wc_X0_tellSetting, by decide, by decide, by decide +kernel⟩, wn_X0_tellSetting, ws_X0_tellSetting, by decide, rfl⟩
set_option maxRecDepth 100000 in
theorem cl_X7_55 : bq_CV RX7 55 MX0_begin 0 0 := ⟨⟨bq_mem (List.mem_of_getElem? (i := 449) (by decide +kernel)) rfl, wi_X0, wc_X0_begin, by decide, by decide, by decide +kernel⟩, wn_X0_begin, ws_X0_begin, by decide, rfl⟩
set_option maxRecDepth 100000 in
theorem cl_X0_44 : bq_CV RX0 44 MX0_heightOf 1 0 := ⟨⟨bq_mem (List.mem_of_getElem? (i := 453) (by decide +kernel)) rfl, wi_X0, wc_X0_heightOf, by decide, by decide, by decide +kernel⟩, wn_X0_heightOf, ws_X0_heightOf, by decide, rfl⟩
set_option maxRecDepth 100000 in
theorem cl_X8_95 : bq_CV RX8 95 MX0_copyFrom 1 0 := ⟨⟨bq_mem (List.mem_of_getElem? (i := 457) (by decide +kernel)) rfl, wi_X0, wc_X0_copyFrom, by decide, by decide, by decide +kernel⟩, wn_X0_copyFrom, ws_X0_copyFrom, by decide, rfl⟩
set_option maxRecDepth 100000 in
theorem cl_X0_33 : bq_CV RX0 33 MX5_copyFrom 1 5 := ⟨⟨bq_mem (List.mem_of_getElem? (i := 461) (by decide +kernel)) rfl, wi_X5, wc_X5_copyFrom, by decide, by decide, by decide +kernel⟩, wn_X5_copyFrom, ws_X5_copyFrom, by decide, rfl⟩
set_option maxRecDepth 100000 in
theorem cl_X8_102 : bq_CV RX8 102 MX5_copyFrom 1 5 := ⟨⟨bq_mem (List.mem_of_getElem? (i := 465) (by decide +kernel)) rfl, wi_X5, wc_X5_copyFrom, by decide, by decide, by decide +kernel⟩, wn_X5_copyFrom, ws_X5_copyFrom, by decide, rfl⟩
set_option maxRecDepth 100000 in
theorem cl_L_27 : bq_CV RL 27 MX8_broom 2 8 := ⟨⟨bq_mem (List.mem_of_getElem? (i := 467) (by decide +kernel)) rfl, wi_X8, wc_X8_broom, by decide, by decide, by decide +kernel⟩, wn_X8_broom, ws_X8_broom, by decide, rfl⟩
set_option maxRecDepth 100000 in
theorem cl_X8_122 : bq_CS RX8 122 MX8_bitOf 2 := ⟨⟨bq_mem (List.mem_of_getElem? (i := 471) (by decide +kernel)) rfl, wi_X8, wc_X8_bitOf, by decide, by decide, by decide +kernel⟩, wt_X8_bitOf⟩
set_option maxRecDepth 100000 in
theorem cl_L_32 : bq_CV RL 32 MX8_now 1 8 := ⟨⟨bq_mem (List.mem_of_getElem? (i := 472) (by decide +kernel)) rfl, wi_X8, wc_X8_now, by decide, by decide, by decide +kernel⟩, wn_X8_now, ws_X8_now, by decide, rfl⟩
set_option maxRecDepth 100000 in
theorem cl_X8_141 : bq_CV RX8 141 MX0_heightOf 1 0 := ⟨⟨bq_mem (List.mem_of_getElem? (i := 476) (by decide +kernel)) rfl, wi_X0, wc_X0_heightOf, by decide, by decide, by decide +kernel⟩, wn_X0_heightOf, ws_X0_heightOf, by decide, rfl⟩
set_option maxRecDepth 100000 in
theorem cl_L_36 : bq_CV RL 36 MX8_minute 0 8 := ⟨⟨bq_mem (List.mem_of_getElem? (i := 477) (by decide +kernel)) rfl, wi_X8, wc_X8_minute, by decide, by decide, by decide +kernel⟩, wn_X8_minute, ws_X8_minute, by decide, rfl⟩
set_option maxRecDepth 100000 in
theorem cl_X8_148 : bq_CV RX8 148 MX6_remember 1 6 := ⟨⟨bq_mem (List.mem_of_getElem? (i := 481) (by decide +kernel)) rfl, wi_X6, wc_X6_remember, by decide, by decide, by decide +kernel⟩, wn_X6_remember, ws_X6_remember, by decide, rfl⟩
set_option maxRecDepth 100000 in
theorem cl_X6_20 : bq_CS RX6 20 MJ9_floorMod_7cf53 2 := ⟨⟨bq_mem (List.mem_of_getElem? (i := 485) (by decide +kernel)) rfl, wi_J9, wc_J9_floorMod_7cf53, by decide, by decide, by decide +kernel⟩, wt_J9_floorMod_7cf53⟩
set_option maxRecDepth 100000 in
theorem cl_X6_26 : bq_CV RX6 26 MX5_copyFrom 1 5 := ⟨⟨bq_mem (List.mem_of_getElem? (i := 488) (by decide +kernel)) rfl, wi_X5, wc_X5_copyFrom, by decide, by decide, by decide +kernel⟩, wn_X5_copyFrom, ws_X5_copyFrom, by decide, rfl⟩
set_option maxRecDepth 100000 in
theorem cl_X6_33 : bq_CS RX6 33 MJ9_min_7cf53 2 := ⟨⟨bq_mem (List.mem_of_getElem? (i := 489) (by decide +kernel)) rfl, wi_J9, wc_J9_min_7cf53, by decide, by decide, by decide +kernel⟩, wt_J9_min_7cf53⟩
set_option maxRecDepth 100000 in
theorem cl_X8_151 : bq_CV RX8 151 MX0_stairWidth 0 0 := ⟨⟨bq_mem (List.mem_of_getElem? (i := 490) (by decide +kernel)) rfl, wi_X0, wc_X0_stairWidth, by decide, by decide, by decide +kernel⟩, wn_X0_stairWidth, ws_X0_stairWidth, by decide, rfl⟩
set_option maxRecDepth 100000 in
theorem cl_X8_155 : bq_CV RX8 155 MX0_drainCups 0 0 := ⟨⟨bq_mem (List.mem_of_getElem? (i := 494) (by decide +kernel)) rfl, wi_X0, wc_X0_drainCups, by decide, by decide, by decide +kernel⟩, wn_X0_drainCups, ws_X0_drainCups, by decide, rfl⟩
set_option maxRecDepth 100000 in
theorem cl_X8_158 : bq_CV RX8 158 MX5_pass 2 5 := ⟨⟨bq_mem (List.mem_of_getElem? (i := 498) (by decide +kernel)) rfl, wi_X5, wc_X5_pass, by decide, by decide, by decide +kernel⟩, wn_X5_pass, ws_X5_pass, by decide, rfl⟩
set_option maxRecDepth 100000 in
theorem cl_X5_50 : bq_CV RX5 50 MX5_isThere 1 5 := ⟨⟨bq_mem (List.mem_of_getElem? (i := 502) (by decide +kernel)) rfl, wi_X5, wc_X5_isThere, by decide, by decide, by decide +kernel⟩, wn_X5_isThere, ws_X5_isThere, by decide, rfl⟩
set_option maxRecDepth 100000 in
theorem cl_X5_54 : bq_CV RX5 54 MX5_comes 1 5 := ⟨⟨bq_mem (List.mem_of_getElem? (i := 507) (by decide +kernel)) rfl, wi_X5, wc_X5_comes, by decide, by decide, by decide +kernel⟩, wn_X5_comes, ws_X5_comes, by decide, rfl⟩
set_option maxRecDepth 100000 in
theorem cl_X5_66 : bq_CV RX5 66 MX5_loadOf 1 5 := ⟨⟨bq_mem (List.mem_of_getElem? (i := 511) (by decide +kernel)) rfl, wi_X5, wc_X5_loadOf, by decide, by decide, by decide +kernel⟩, wn_X5_loadOf, ws_X5_loadOf, by decide, rfl⟩
set_option maxRecDepth 100000 in
theorem cl_X5_70 : bq_CS RX5 70 MJ9_max_7cf53 2 := ⟨⟨bq_mem (List.mem_of_getElem? (i := 515) (by decide +kernel)) rfl, wi_J9, wc_J9_max_7cf53, by decide, by decide, by decide +kernel⟩, wt_J9_max_7cf53⟩
set_option maxRecDepth 100000 in
theorem cl_X5_58 : bq_CS RX5 58 MJ9_min_7cf53 2 := ⟨⟨bq_mem (List.mem_of_getElem? (i := 517) (by decide +kernel)) rfl, wi_J9, wc_J9_min_7cf53, by decide, by decide, by decide +kernel⟩, wt_J9_min_7cf53⟩
set_option maxRecDepth 100000 in
theorem cl_X8_162 : bq_CS RX8 162 MJ9_max_7cf53 2 := ⟨⟨bq_mem (List.mem_of_getElem? (i := 518) (by decide +kernel)) rfl, wi_J9, wc_J9_max_7cf53, by decide, by decide, by decide +kernel⟩, wt_J9_max_7cf53⟩
set_option maxRecDepth 100000 in
theorem cl_L_40 : bq_CV RL 40 MX8_splits 1 8 := ⟨⟨bq_mem (List.mem_of_getElem? (i := 519) (by decide +kernel)) rfl, wi_X8, wc_X8_splits, by decide, by decide, by decide +kernel⟩, wn_X8_splits, ws_X8_splits, by decide, rfl⟩
set_option maxRecDepth 100000 in
theorem cl_X8_167 : bq_CV RX8 167 MX5_isThere 1 5 := ⟨⟨bq_mem (List.mem_of_getElem? (i := 523) (by decide +kernel)) rfl, wi_X5, wc_X5_isThere, by decide, by decide, by decide +kernel⟩, wn_X5_isThere, ws_X5_isThere, by decide, rfl⟩
set_option maxRecDepth 100000 in
theorem cl_X8_170 : bq_CV RX8 170 MX5_canSplit 1 5 := ⟨⟨bq_mem (List.mem_of_getElem? (i := 524) (by decide +kernel)) rfl, wi_X5, wc_X5_canSplit, by decide, by decide, by decide +kernel⟩, wn_X5_canSplit, ws_X5_canSplit, by decide, rfl⟩
set_option maxRecDepth 100000 in
theorem cl_X5_74 : bq_CV RX5 74 MX5_firstFree 0 5 := ⟨⟨bq_mem (List.mem_of_getElem? (i := 528) (by decide +kernel)) rfl, wi_X5, wc_X5_firstFree, by decide, by decide, by decide +kernel⟩, wn_X5_firstFree, ws_X5_firstFree, by decide, rfl⟩
set_option maxRecDepth 100000 in
theorem cl_X8_173 : bq_CV RX8 173 MX5_split 1 5 := ⟨⟨bq_mem (List.mem_of_getElem? (i := 532) (by decide +kernel)) rfl, wi_X5, wc_X5_split, by decide, by decide, by decide +kernel⟩, wn_X5_split, ws_X5_split, by decide, rfl⟩
set_option maxRecDepth 100000 in
theorem cl_X5_78 : bq_CV RX5 78 MX5_canSplit 1 5 := ⟨⟨bq_mem (List.mem_of_getElem? (i := 536) (by decide +kernel)) rfl, wi_X5, wc_X5_canSplit, by decide, by decide, by decide +kernel⟩, wn_X5_canSplit, ws_X5_canSplit, by decide, rfl⟩
set_option maxRecDepth 100000 in
theorem cl_X5_81 : bq_CV RX5 81 MX5_place 4 5 := ⟨⟨bq_mem (List.mem_of_getElem? (i := 537) (by decide +kernel)) rfl, wi_X5, wc_X5_place, by decide, by decide, by decide +kernel⟩, wn_X5_place, ws_X5_place, by decide, rfl⟩
set_option maxRecDepth 100000 in
theorem cl_X5_85 : bq_CS RX5 85 MX5_alike 3 := ⟨⟨bq_mem (List.mem_of_getElem? (i := 538) (by decide +kernel)) rfl, wi_X5, wc_X5_alike, by decide, by decide, by decide +kernel⟩, wt_X5_alike⟩
set_option maxRecDepth 100000 in
theorem cl_L_44 : bq_CV RL 44 MX8_teaches 1 8 := ⟨⟨bq_mem (List.mem_of_getElem? (i := 541) (by decide +kernel)) rfl, wi_X8, wc_X8_teaches, by decide, by decide, by decide +kernel⟩, wn_X8_teaches, ws_X8_teaches, by decide, rfl⟩
set_option maxRecDepth 100000 in
theorem cl_L_48 : bq_CV RL 48 MX8_bores 1 8 := ⟨⟨bq_mem (List.mem_of_getElem? (i := 545) (by decide +kernel)) rfl, wi_X8, wc_X8_bores, by decide, by decide, by decide +kernel⟩, wn_X8_bores, ws_X8_bores, by decide, rfl⟩
set_option maxRecDepth 100000 in
theorem cl_L_52 : bq_CV RL 52 MX8_burns 1 8 := ⟨⟨bq_mem (List.mem_of_getElem? (i := 549) (by decide +kernel)) rfl, wi_X8, wc_X8_burns, by decide, by decide, by decide +kernel⟩, wn_X8_burns, ws_X8_burns, by decide, rfl⟩
set_option maxRecDepth 100000 in
theorem cl_X8_176 : bq_CV RX8 176 MX8_takeAway 1 8 := ⟨⟨bq_mem (List.mem_of_getElem? (i := 553) (by decide +kernel)) rfl, wi_X8, wc_X8_takeAway, by decide, by decide, by decide +kernel⟩, wn_X8_takeAway, ws_X8_takeAway, by decide, rfl⟩
set_option maxRecDepth 100000 in
theorem cl_X8_182 : bq_CS RX8 182 MJ6_bitCount_0f7a4 1 := ⟨⟨bq_mem (List.mem_of_getElem? (i := 557) (by decide +kernel)) rfl, wi_J6, wc_J6_bitCount_0f7a4, by decide, by decide, by decide +kernel⟩, wt_J6_bitCount_0f7a4⟩
set_option maxRecDepth 100000 in
theorem cl_L_56 : bq_CV RL 56 MX8_halts 1 8 := ⟨⟨bq_mem (List.mem_of_getElem? (i := 563) (by decide +kernel)) rfl, wi_X8, wc_X8_halts, by decide, by decide, by decide +kernel⟩, wn_X8_halts, ws_X8_halts, by decide, rfl⟩
set_option maxRecDepth 100000 in
theorem cl_L_60 : bq_CV RL 60 MX8_undo 0 8 := ⟨⟨bq_mem (List.mem_of_getElem? (i := 567) (by decide +kernel)) rfl, wi_X8, wc_X8_undo, by decide, by decide, by decide +kernel⟩, wn_X8_undo, ws_X8_undo, by decide, rfl⟩
set_option maxRecDepth 100000 in
theorem cl_X8_179 : bq_CV RX8 179 MX6_bringBack 1 6 := ⟨⟨bq_mem (List.mem_of_getElem? (i := 571) (by decide +kernel)) rfl, wi_X6, wc_X6_bringBack, by decide, by decide, by decide +kernel⟩, wn_X6_bringBack, ws_X6_bringBack, by decide, rfl⟩
set_option maxRecDepth 100000 in
theorem cl_L_64 : bq_CV RL 64 MX8_stands 1 8 := ⟨⟨bq_mem (List.mem_of_getElem? (i := 575) (by decide +kernel)) rfl, wi_X8, wc_X8_stands, by decide, by decide, by decide +kernel⟩, wn_X8_stands, ws_X8_stands, by decide, rfl⟩
set_option maxRecDepth 100000 in
theorem cl_X8_187 : bq_CV RX8 187 MX8_lookAhead 0 8 := ⟨⟨bq_mem (List.mem_of_getElem? (i := 579) (by decide +kernel)) rfl, wi_X8, wc_X8_lookAhead, by decide, by decide, by decide +kernel⟩, wn_X8_lookAhead, ws_X8_lookAhead, by decide, rfl⟩
set_option maxRecDepth 100000 in
theorem cl_L_68 : bq_CV RL 68 MX8_above 0 8 := ⟨⟨bq_mem (List.mem_of_getElem? (i := 583) (by decide +kernel)) rfl, wi_X8, wc_X8_above, by decide, by decide, by decide +kernel⟩, wn_X8_above, ws_X8_above, by decide, rfl⟩
set_option maxRecDepth 100000 in
theorem cl_X8_190 : bq_CV RX8 190 MX0_isAboveMark 1 0 := ⟨⟨bq_mem (List.mem_of_getElem? (i := 587) (by decide +kernel)) rfl, wi_X0, wc_X0_isAboveMark, by decide, by decide, by decide +kernel⟩, wn_X0_isAboveMark, ws_X0_isAboveMark, by decide, rfl⟩
set_option maxRecDepth 100000 in
theorem cl_L_72 : bq_CV RL 72 MX8_most 1 8 := ⟨⟨bq_mem (List.mem_of_getElem? (i := 591) (by decide +kernel)) rfl, wi_X8, wc_X8_most, by decide, by decide, by decide +kernel⟩, wn_X8_most, ws_X8_most, by decide, rfl⟩
set_option maxRecDepth 100000 in
theorem cl_L_76 : bq_CV RL 76 MX8_teach 1 8 := ⟨⟨bq_mem (List.mem_of_getElem? (i := 595) (by decide +kernel)) rfl, wi_X8, wc_X8_teach, by decide, by decide, by decide +kernel⟩, wn_X8_teach, ws_X8_teach, by decide, rfl⟩
set_option maxRecDepth 100000 in
theorem cl_X8_193 : bq_CV RX8 193 MX8_fewest 3 8 := ⟨⟨bq_mem (List.mem_of_getElem? (i := 599) (by decide +kernel)) rfl, wi_X8, wc_X8_fewest, by decide, by decide, by decide +kernel⟩, wn_X8_fewest, ws_X8_fewest, by decide, rfl⟩
set_option maxRecDepth 100000 in
theorem cl_X8_197 : bq_CS RX8 197 MX8_isPlanned 1 := ⟨⟨bq_mem (List.mem_of_getElem? (i := 603) (by decide +kernel)) rfl, wi_X8, wc_X8_isPlanned, by decide, by decide, by decide +kernel⟩, wt_X8_isPlanned⟩
set_option maxRecDepth 100000 in
theorem cl_X8_204 : bq_CV RX8 204 MX8_helps 3 8 := ⟨⟨bq_mem (List.mem_of_getElem? (i := 606) (by decide +kernel)) rfl, wi_X8, wc_X8_helps, by decide, by decide, by decide +kernel⟩, wn_X8_helps, ws_X8_helps, by decide, rfl⟩
set_option maxRecDepth 100000 in
theorem cl_X8_200 : bq_CV RX8 200 MX8_staysAtMark 3 8 := ⟨⟨bq_mem (List.mem_of_getElem? (i := 610) (by decide +kernel)) rfl, wi_X8, wc_X8_staysAtMark, by decide, by decide, by decide +kernel⟩, wn_X8_staysAtMark, ws_X8_staysAtMark, by decide, rfl⟩
set_option maxRecDepth 100000 in
theorem cl_L_80 : bq_CV RL 80 MX8_burn 1 8 := ⟨⟨bq_mem (List.mem_of_getElem? (i := 614) (by decide +kernel)) rfl, wi_X8, wc_X8_burn, by decide, by decide, by decide +kernel⟩, wn_X8_burn, ws_X8_burn, by decide, rfl⟩
set_option maxRecDepth 100000 in
theorem cl_L_84 : bq_CV RL 84 MX8_stair 1 8 := ⟨⟨bq_mem (List.mem_of_getElem? (i := 618) (by decide +kernel)) rfl, wi_X8, wc_X8_stair, by decide, by decide, by decide +kernel⟩, wn_X8_stair, ws_X8_stair, by decide, rfl⟩
set_option maxRecDepth 100000 in
theorem cl_L_88 : bq_CV RL 88 MX8_drain 1 8 := ⟨⟨bq_mem (List.mem_of_getElem? (i := 622) (by decide +kernel)) rfl, wi_X8, wc_X8_drain, by decide, by decide, by decide +kernel⟩, wn_X8_drain, ws_X8_drain, by decide, rfl⟩
set_option maxRecDepth 100000 in
theorem cl_L_92 : bq_CV RL 92 MX8_flow 1 8 := ⟨⟨bq_mem (List.mem_of_getElem? (i := 626) (by decide +kernel)) rfl, wi_X8, wc_X8_flow, by decide, by decide, by decide +kernel⟩, wn_X8_flow, ws_X8_flow, by decide, rfl⟩
set_option maxRecDepth 100000 in
theorem cl_X8_210 : bq_CV RX8 210 MX1_become 2 1 := ⟨⟨bq_mem (List.mem_of_getElem? (i := 631) (by decide +kernel)) rfl, wi_X1, wc_X1_become, by decide, by decide, by decide +kernel⟩, wn_X1_become, ws_X1_become, by decide, rfl⟩
set_option maxRecDepth 100000 in
theorem cl_X1_16 : bq_CS RX1 16 MJ9_abs_067f4 1 := ⟨⟨bq_mem (List.mem_of_getElem? (i := 635) (by decide +kernel)) rfl, wi_J9, wc_J9_abs_067f4, by decide, by decide, by decide +kernel⟩, wt_J9_abs_067f4⟩
set_option maxRecDepth 100000 in
theorem cl_X1_22 : bq_CS RX1 22 MX1_commonDivisor 2 := ⟨⟨bq_mem (List.mem_of_getElem? (i := 638) (by decide +kernel)) rfl, wi_X1, wc_X1_commonDivisor, by decide, by decide, by decide +kernel⟩, wt_X1_commonDivisor⟩
set_option maxRecDepth 100000 in
theorem cl_X8_214 : bq_CV RX8 214 MX5_loadOf 1 5 := ⟨⟨bq_mem (List.mem_of_getElem? (i := 641) (by decide +kernel)) rfl, wi_X5, wc_X5_loadOf, by decide, by decide, by decide +kernel⟩, wn_X5_loadOf, ws_X5_loadOf, by decide, rfl⟩
set_option maxRecDepth 100000 in
theorem cl_X8_217 : bq_CV RX8 217 MX1_plus 2 1 := ⟨⟨bq_mem (List.mem_of_getElem? (i := 642) (by decide +kernel)) rfl, wi_X1, wc_X1_plus, by decide, by decide, by decide +kernel⟩, wn_X1_plus, ws_X1_plus, by decide, rfl⟩
set_option maxRecDepth 100000 in
theorem cl_X1_26 : bq_CV RX1 26 MX1_become 2 1 := ⟨⟨bq_mem (List.mem_of_getElem? (i := 646) (by decide +kernel)) rfl, wi_X1, wc_X1_become, by decide, by decide, by decide +kernel⟩, wn_X1_become, ws_X1_become, by decide, rfl⟩
set_option maxRecDepth 100000 in
theorem cl_X8_220 : bq_CV RX8 220 MX1_part 1 1 := ⟨⟨bq_mem (List.mem_of_getElem? (i := 647) (by decide +kernel)) rfl, wi_X1, wc_X1_part, by decide, by decide, by decide +kernel⟩, wn_X1_part, ws_X1_part, by decide, rfl⟩
set_option maxRecDepth 100000 in
theorem cl_L_97 : bq_CV RL 97 MX8_splitOn 3 8 := ⟨⟨bq_mem (List.mem_of_getElem? (i := 651) (by decide +kernel)) rfl, wi_X8, wc_X8_splitOn, by decide, by decide, by decide +kernel⟩, wn_X8_splitOn, ws_X8_splitOn, by decide, rfl⟩
set_option maxRecDepth 100000 in
theorem cl_L_102 : bq_CV RL 102 MX8_price 2 8 := ⟨⟨bq_mem (List.mem_of_getElem? (i := 655) (by decide +kernel)) rfl, wi_X8, wc_X8_price, by decide, by decide, by decide +kernel⟩, wn_X8_price, ws_X8_price, by decide, rfl⟩
set_option maxRecDepth 100000 in
theorem cl_L_106 : bq_CV RL 106 MX8_heard 1 8 := ⟨⟨bq_mem (List.mem_of_getElem? (i := 659) (by decide +kernel)) rfl, wi_X8, wc_X8_heard, by decide, by decide, by decide +kernel⟩, wn_X8_heard, ws_X8_heard, by decide, rfl⟩
set_option maxRecDepth 100000 in
theorem cl_L_110 : bq_CV RL 110 MX8_measured 2 8 := ⟨⟨bq_mem (List.mem_of_getElem? (i := 663) (by decide +kernel)) rfl, wi_X8, wc_X8_measured, by decide, by decide, by decide +kernel⟩, wn_X8_measured, ws_X8_measured, by decide, rfl⟩
set_option maxRecDepth 100000 in
theorem cl_X8_231 : bq_CV RX8 231 MX4_add 2 4 := ⟨⟨bq_mem (List.mem_of_getElem? (i := 668) (by decide +kernel)) rfl, wi_X4, wc_X4_add, by decide, by decide, by decide +kernel⟩, wn_X4_add, ws_X4_add, by decide, rfl⟩
set_option maxRecDepth 100000 in
theorem cl_L_114 : bq_CV RL 114 MX8_forget 0 8 := ⟨⟨bq_mem (List.mem_of_getElem? (i := 672) (by decide +kernel)) rfl, wi_X8, wc_X8_forget, by decide, by decide, by decide +kernel⟩, wn_X8_forget, ws_X8_forget, by decide, rfl⟩
set_option maxRecDepth 100000 in
theorem cl_L_118 : bq_CV RL 118 MX8_splitFirst 0 8 := ⟨⟨bq_mem (List.mem_of_getElem? (i := 676) (by decide +kernel)) rfl, wi_X8, wc_X8_splitFirst, by decide, by decide, by decide +kernel⟩, wn_X8_splitFirst, ws_X8_splitFirst, by decide, rfl⟩
set_option maxRecDepth 100000 in
theorem cl_X8_234 : bq_CV RX8 234 MX8_isAsMeasured 0 8 := ⟨⟨bq_mem (List.mem_of_getElem? (i := 680) (by decide +kernel)) rfl, wi_X8, wc_X8_isAsMeasured, by decide, by decide, by decide +kernel⟩, wn_X8_isAsMeasured, ws_X8_isAsMeasured, by decide, rfl⟩
set_option maxRecDepth 100000 in
theorem cl_X8_238 : bq_CV RX8 238 MX4_allowWater 2 4 := ⟨⟨bq_mem (List.mem_of_getElem? (i := 684) (by decide +kernel)) rfl, wi_X4, wc_X4_allowWater, by decide, by decide, by decide +kernel⟩, wn_X4_allowWater, ws_X4_allowWater, by decide, rfl⟩
set_option maxRecDepth 100000 in
theorem cl_L_122 : bq_CV RL 122 MX8_odds 5 8 := ⟨⟨bq_mem (List.mem_of_getElem? (i := 688) (by decide +kernel)) rfl, wi_X8, wc_X8_odds, by decide, by decide, by decide +kernel⟩, wn_X8_odds, ws_X8_odds, by decide, rfl⟩
set_option maxRecDepth 100000 in
theorem cl_X8_241 : bq_CV RX8 241 MX5_comings 2 5 := ⟨⟨bq_mem (List.mem_of_getElem? (i := 692) (by decide +kernel)) rfl, wi_X5, wc_X5_comings, by decide, by decide, by decide +kernel⟩, wn_X5_comings, ws_X5_comings, by decide, rfl⟩
set_option maxRecDepth 100000 in
theorem cl_X8_245 : bq_CV RX8 245 MX8_countWays 2 8 := ⟨⟨bq_mem (List.mem_of_getElem? (i := 697) (by decide +kernel)) rfl, wi_X8, wc_X8_countWays, by decide, by decide, by decide +kernel⟩, wn_X8_countWays, ws_X8_countWays, by decide, rfl⟩
set_option maxRecDepth 100000 in
theorem cl_L_127 : bq_CV RL 127 MX8_rate 2 8 := ⟨⟨bq_mem (List.mem_of_getElem? (i := 702) (by decide +kernel)) rfl, wi_X8, wc_X8_rate, by decide, by decide, by decide +kernel⟩, wn_X8_rate, ws_X8_rate, by decide, rfl⟩
set_option maxRecDepth 100000 in
theorem cl_X8_251 : bq_CV RX8 251 MX2_asBroom 1 2 := ⟨⟨bq_mem (List.mem_of_getElem? (i := 706) (by decide +kernel)) rfl, wi_X2, wc_X2_asBroom, by decide, by decide, by decide +kernel⟩, wn_X2_asBroom, ws_X2_asBroom, by decide, rfl⟩
set_option maxRecDepth 100000 in
theorem cl_X8_254 : bq_CV RX8 254 MX2_asWet 2 2 := ⟨⟨bq_mem (List.mem_of_getElem? (i := 710) (by decide +kernel)) rfl, wi_X2, wc_X2_asWet, by decide, by decide, by decide +kernel⟩, wn_X2_asWet, ws_X2_asWet, by decide, rfl⟩
set_option maxRecDepth 100000 in
theorem cl_X2_15 : bq_CV RX2 15 MX2_asBroom 1 2 := ⟨⟨bq_mem (List.mem_of_getElem? (i := 715) (by decide +kernel)) rfl, wi_X2, wc_X2_asBroom, by decide, by decide, by decide +kernel⟩, wn_X2_asBroom, ws_X2_asBroom, by decide, rfl⟩
set_option maxRecDepth 100000 in
theorem cl_X8_257 : bq_CV RX8 257 MX2_asHalf 2 2 := ⟨⟨bq_mem (List.mem_of_getElem? (i := 716) (by decide +kernel)) rfl, wi_X2, wc_X2_asHalf, by decide, by decide, by decide +kernel⟩, wn_X2_asHalf, ws_X2_asHalf, by decide, rfl⟩
set_option maxRecDepth 100000 in
theorem cl_X8_260 : bq_CV RX8 260 MX2_asBored 2 2 := ⟨⟨bq_mem (List.mem_of_getElem? (i := 721) (by decide +kernel)) rfl, wi_X2, wc_X2_asBored, by decide, by decide, by decide +kernel⟩, wn_X2_asBored, ws_X2_asBored, by decide, rfl⟩
set_option maxRecDepth 100000 in
theorem cl_X2_23 : bq_CV RX2 23 MX2_asWet 2 2 := ⟨⟨bq_mem (List.mem_of_getElem? (i := 726) (by decide +kernel)) rfl, wi_X2, wc_X2_asWet, by decide, by decide, by decide +kernel⟩, wn_X2_asWet, ws_X2_asWet, by decide, rfl⟩
set_option maxRecDepth 100000 in
theorem cl_X8_263 : bq_CV RX8 263 MX2_asBurning 3 2 := ⟨⟨bq_mem (List.mem_of_getElem? (i := 727) (by decide +kernel)) rfl, wi_X2, wc_X2_asBurning, by decide, by decide, by decide +kernel⟩, wn_X2_asBurning, ws_X2_asBurning, by decide, rfl⟩
set_option maxRecDepth 100000 in
theorem cl_X2_29 : bq_CV RX2 29 MX2_asHalf 2 2 := ⟨⟨bq_mem (List.mem_of_getElem? (i := 732) (by decide +kernel)) rfl, wi_X2, wc_X2_asHalf, by decide, by decide, by decide +kernel⟩, wn_X2_asHalf, ws_X2_asHalf, by decide, rfl⟩
set_option maxRecDepth 100000 in
theorem cl_X8_267 : bq_CV RX8 267 MX2_asTeaching 2 2 := ⟨⟨bq_mem (List.mem_of_getElem? (i := 733) (by decide +kernel)) rfl, wi_X2, wc_X2_asTeaching, by decide, by decide, by decide +kernel⟩, wn_X2_asTeaching, ws_X2_asTeaching, by decide, rfl⟩
set_option maxRecDepth 100000 in
theorem cl_L_131 : bq_CV RL 131 MX8_keep 1 8 := ⟨⟨bq_mem (List.mem_of_getElem? (i := 738) (by decide +kernel)) rfl, wi_X8, wc_X8_keep, by decide, by decide, by decide +kernel⟩, wn_X8_keep, ws_X8_keep, by decide, rfl⟩
set_option maxRecDepth 100000 in
theorem cl_L_135 : bq_CV RL 135 MX8_back 1 8 := ⟨⟨bq_mem (List.mem_of_getElem? (i := 742) (by decide +kernel)) rfl, wi_X8, wc_X8_back, by decide, by decide, by decide +kernel⟩, wn_X8_back, ws_X8_back, by decide, rfl⟩
set_option maxRecDepth 100000 in
theorem cl_L_139 : bq_CV RL 139 MX8_count 1 8 := ⟨⟨bq_mem (List.mem_of_getElem? (i := 746) (by decide +kernel)) rfl, wi_X8, wc_X8_count, by decide, by decide, by decide +kernel⟩, wn_X8_count, ws_X8_count, by decide, rfl⟩
set_option maxRecDepth 100000 in
theorem cl_L_143 : bq_CV RL 143 MX8_trace 0 8 := ⟨⟨bq_mem (List.mem_of_getElem? (i := 750) (by decide +kernel)) rfl, wi_X8, wc_X8_trace, by decide, by decide, by decide +kernel⟩, wn_X8_trace, ws_X8_trace, by decide, rfl⟩
set_option maxRecDepth 100000 in
theorem cl_L_12 : bq_CI RL 12 MX9_init 0 := ⟨⟨bq_mem (List.mem_of_getElem? (i := 756) (by decide +kernel)) rfl, wi_X9, wc_X9_init, by decide, by decide, by decide +kernel⟩, rfl, wn_X9_init⟩
set_option maxRecDepth 100000 in
theorem wm_X9_1 : Cond.methodLink RX9 1 Lib.objectInit ∈ bq_tbl := bq_mem (List.mem_of_getElem? (i := 759) (by decide +kernel)) rfl
set_option maxRecDepth 100000 in
theorem cl_X9_38 : bq_CV RX9 38 MX9_reads 0 9 := ⟨⟨bq_mem (List.mem_of_getElem? (i := 760) (by decide +kernel)) rfl, wi_X9, wc_X9_reads, by decide, by decide, by decide +kernel⟩, wn_X9_reads, ws_X9_reads, by decide, rfl⟩
set_option maxRecDepth 100000 in
theorem cl_X9_79 : bq_CV RX9 79 MX9_token 0 9 := ⟨⟨bq_mem (List.mem_of_getElem? (i := 764) (by decide +kernel)) rfl, wi_X9, wc_X9_token, by decide, by decide, by decide +kernel⟩, wn_X9_token, ws_X9_token, by decide, rfl⟩
set_option maxRecDepth 100000 in
theorem cl_X9_60 : bq_CV RX9 60 MX9_letterAt 1 9 := ⟨⟨bq_mem (List.mem_of_getElem? (i := 768) (by decide +kernel)) rfl, wi_X9, wc_X9_letterAt, by decide, by decide, by decide +kernel⟩, wn_X9_letterAt, ws_X9_letterAt, by decide, rfl⟩
set_option maxRecDepth 100000 in
theorem cl_X9_67 : bq_CS RX9 67 MX9_itemOf 1 := ⟨⟨bq_mem (List.mem_of_getElem? (i := 772) (by decide +kernel)) rfl, wi_X9, wc_X9_itemOf, by decide, by decide, by decide +kernel⟩, wt_X9_itemOf⟩
set_option maxRecDepth 100000 in
theorem cl_X9_70 : bq_CS RX9 70 MX9_isDigit 1 := ⟨⟨bq_mem (List.mem_of_getElem? (i := 775) (by decide +kernel)) rfl, wi_X9, wc_X9_isDigit, by decide, by decide, by decide +kernel⟩, wt_X9_isDigit⟩
set_option maxRecDepth 100000 in
theorem cl_X9_45 : bq_CS RX9 45 MX9_in 3 := ⟨⟨bq_mem (List.mem_of_getElem? (i := 778) (by decide +kernel)) rfl, wi_X9, wc_X9_in, by decide, by decide, by decide +kernel⟩, wt_X9_in⟩
set_option maxRecDepth 100000 in
theorem cl_X9_85 : bq_CV RX9 85 MX9_readsItem 0 9 := ⟨⟨bq_mem (List.mem_of_getElem? (i := 781) (by decide +kernel)) rfl, wi_X9, wc_X9_readsItem, by decide, by decide, by decide +kernel⟩, wn_X9_readsItem, ws_X9_readsItem, by decide, rfl⟩
set_option maxRecDepth 100000 in
theorem cl_X9_82 : bq_CV RX9 82 MX9_number 3 9 := ⟨⟨bq_mem (List.mem_of_getElem? (i := 785) (by decide +kernel)) rfl, wi_X9, wc_X9_number, by decide, by decide, by decide +kernel⟩, wn_X9_number, ws_X9_number, by decide, rfl⟩
set_option maxRecDepth 100000 in
theorem cl_X9_42 : bq_CV RX9 42 MX9_tells 0 9 := ⟨⟨bq_mem (List.mem_of_getElem? (i := 789) (by decide +kernel)) rfl, wi_X9, wc_X9_tells, by decide, by decide, by decide +kernel⟩, wn_X9_tells, ws_X9_tells, by decide, rfl⟩
set_option maxRecDepth 100000 in
theorem cl_X9_92 : bq_CV RX9 92 MX9_begins 0 9 := ⟨⟨bq_mem (List.mem_of_getElem? (i := 793) (by decide +kernel)) rfl, wi_X9, wc_X9_begins, by decide, by decide, by decide +kernel⟩, wn_X9_begins, ws_X9_begins, by decide, rfl⟩
set_option maxRecDepth 100000 in
theorem cl_X9_88 : bq_CV RX9 88 MX9_high 0 9 := ⟨⟨bq_mem (List.mem_of_getElem? (i := 797) (by decide +kernel)) rfl, wi_X9, wc_X9_high, by decide, by decide, by decide +kernel⟩, wn_X9_high, ws_X9_high, by decide, rfl⟩
set_option maxRecDepth 100000 in
theorem cl_L_17 : bq_CV RL 17 MX9_type 1 9 := ⟨⟨bq_mem (List.mem_of_getElem? (i := 862) (by decide +kernel)) rfl, wi_X9, wc_X9_type, by decide, by decide, by decide +kernel⟩, wn_X9_type, ws_X9_type, by decide, rfl⟩
set_option maxRecDepth 100000 in
theorem cl_L_22 : bq_CV RL 22 MX9_clear 0 9 := ⟨⟨bq_mem (List.mem_of_getElem? (i := 866) (by decide +kernel)) rfl, wi_X9, wc_X9_clear, by decide, by decide, by decide +kernel⟩, wn_X9_clear, ws_X9_clear, by decide, rfl⟩
set_option maxRecDepth 100000 in
theorem cl_L_26 : bq_CV RL 26 MX9_cellar 0 9 := ⟨⟨bq_mem (List.mem_of_getElem? (i := 870) (by decide +kernel)) rfl, wi_X9, wc_X9_cellar, by decide, by decide, by decide +kernel⟩, wn_X9_cellar, ws_X9_cellar, by decide, rfl⟩
set_option maxRecDepth 100000 in
theorem cl_L_31 : bq_CV RL 31 MX9_broom 2 9 := ⟨⟨bq_mem (List.mem_of_getElem? (i := 874) (by decide +kernel)) rfl, wi_X9, wc_X9_broom, by decide, by decide, by decide +kernel⟩, wn_X9_broom, ws_X9_broom, by decide, rfl⟩
set_option maxRecDepth 100000 in
theorem cl_X9_49 : bq_CS RX9 49 MX9_isNumber 1 := ⟨⟨bq_mem (List.mem_of_getElem? (i := 878) (by decide +kernel)) rfl, wi_X9, wc_X9_isNumber, by decide, by decide, by decide +kernel⟩, wt_X9_isNumber⟩
set_option maxRecDepth 100000 in
theorem cl_L_35 : bq_CV RL 35 MX9_now 1 9 := ⟨⟨bq_mem (List.mem_of_getElem? (i := 881) (by decide +kernel)) rfl, wi_X9, wc_X9_now, by decide, by decide, by decide +kernel⟩, wn_X9_now, ws_X9_now, by decide, rfl⟩
set_option maxRecDepth 100000 in
theorem cl_X9_101 : bq_CV RX9 101 MX9_there 0 9 := ⟨⟨bq_mem (List.mem_of_getElem? (i := 885) (by decide +kernel)) rfl, wi_X9, wc_X9_there, by decide, by decide, by decide +kernel⟩, wn_X9_there, ws_X9_there, by decide, rfl⟩
set_option maxRecDepth 100000 in
theorem cl_L_39 : bq_CV RL 39 MX9_minute 0 9 := ⟨⟨bq_mem (List.mem_of_getElem? (i := 889) (by decide +kernel)) rfl, wi_X9, wc_X9_minute, by decide, by decide, by decide +kernel⟩, wn_X9_minute, ws_X9_minute, by decide, rfl⟩
set_option maxRecDepth 100000 in
theorem cl_X9_117 : bq_CV RX9 117 MX9_keeps 0 9 := ⟨⟨bq_mem (List.mem_of_getElem? (i := 893) (by decide +kernel)) rfl, wi_X9, wc_X9_keeps, by decide, by decide, by decide +kernel⟩, wn_X9_keeps, ws_X9_keeps, by decide, rfl⟩
set_option maxRecDepth 100000 in
theorem cl_X9_120 : bq_CV RX9 120 MX9_asTold 0 9 := ⟨⟨bq_mem (List.mem_of_getElem? (i := 897) (by decide +kernel)) rfl, wi_X9, wc_X9_asTold, by decide, by decide, by decide +kernel⟩, wn_X9_asTold, ws_X9_asTold, by decide, rfl⟩
set_option maxRecDepth 100000 in
theorem cl_X9_123 : bq_CV RX9 123 MX9_goes 0 9 := ⟨⟨bq_mem (List.mem_of_getElem? (i := 901) (by decide +kernel)) rfl, wi_X9, wc_X9_goes, by decide, by decide, by decide +kernel⟩, wn_X9_goes, ws_X9_goes, by decide, rfl⟩
set_option maxRecDepth 100000 in
theorem cl_X9_107 : bq_CV RX9 107 MX9_carries 1 9 := ⟨⟨bq_mem (List.mem_of_getElem? (i := 905) (by decide +kernel)) rfl, wi_X9, wc_X9_carries, by decide, by decide, by decide +kernel⟩, wn_X9_carries, ws_X9_carries, by decide, rfl⟩
set_option maxRecDepth 100000 in
theorem cl_L_43 : bq_CV RL 43 MX9_splits 1 9 := ⟨⟨bq_mem (List.mem_of_getElem? (i := 910) (by decide +kernel)) rfl, wi_X9, wc_X9_splits, by decide, by decide, by decide +kernel⟩, wn_X9_splits, ws_X9_splits, by decide, rfl⟩
set_option maxRecDepth 100000 in
theorem cl_X9_129 : bq_CV RX9 129 MX9_isThere 1 9 := ⟨⟨bq_mem (List.mem_of_getElem? (i := 914) (by decide +kernel)) rfl, wi_X9, wc_X9_isThere, by decide, by decide, by decide +kernel⟩, wn_X9_isThere, ws_X9_isThere, by decide, rfl⟩
set_option maxRecDepth 100000 in
theorem cl_X9_132 : bq_CV RX9 132 MX9_canSplit 1 9 := ⟨⟨bq_mem (List.mem_of_getElem? (i := 918) (by decide +kernel)) rfl, wi_X9, wc_X9_canSplit, by decide, by decide, by decide +kernel⟩, wn_X9_canSplit, ws_X9_canSplit, by decide, rfl⟩
set_option maxRecDepth 100000 in
theorem cl_X9_126 : bq_CV RX9 126 MX9_free 0 9 := ⟨⟨bq_mem (List.mem_of_getElem? (i := 922) (by decide +kernel)) rfl, wi_X9, wc_X9_free, by decide, by decide, by decide +kernel⟩, wn_X9_free, ws_X9_free, by decide, rfl⟩
set_option maxRecDepth 100000 in
theorem cl_X9_135 : bq_CV RX9 135 MX9_splitsNow 1 9 := ⟨⟨bq_mem (List.mem_of_getElem? (i := 926) (by decide +kernel)) rfl, wi_X9, wc_X9_splitsNow, by decide, by decide, by decide +kernel⟩, wn_X9_splitsNow, ws_X9_splitsNow, by decide, rfl⟩
set_option maxRecDepth 100000 in
theorem cl_L_47 : bq_CV RL 47 MX9_teaches 1 9 := ⟨⟨bq_mem (List.mem_of_getElem? (i := 930) (by decide +kernel)) rfl, wi_X9, wc_X9_teaches, by decide, by decide, by decide +kernel⟩, wn_X9_teaches, ws_X9_teaches, by decide, rfl⟩
set_option maxRecDepth 100000 in
theorem cl_L_51 : bq_CV RL 51 MX9_bores 1 9 := ⟨⟨bq_mem (List.mem_of_getElem? (i := 934) (by decide +kernel)) rfl, wi_X9, wc_X9_bores, by decide, by decide, by decide +kernel⟩, wn_X9_bores, ws_X9_bores, by decide, rfl⟩
set_option maxRecDepth 100000 in
theorem cl_L_55 : bq_CV RL 55 MX9_burns 1 9 := ⟨⟨bq_mem (List.mem_of_getElem? (i := 938) (by decide +kernel)) rfl, wi_X9, wc_X9_burns, by decide, by decide, by decide +kernel⟩, wn_X9_burns, ws_X9_burns, by decide, rfl⟩
set_option maxRecDepth 100000 in
theorem cl_X9_138 : bq_CS RX9 138 MX9_ones 1 := ⟨⟨bq_mem (List.mem_of_getElem? (i := 942) (by decide +kernel)) rfl, wi_X9, wc_X9_ones, by decide, by decide, by decide +kernel⟩, wt_X9_ones⟩
set_option maxRecDepth 100000 in
theorem cl_L_59 : bq_CV RL 59 MX9_halts 1 9 := ⟨⟨bq_mem (List.mem_of_getElem? (i := 945) (by decide +kernel)) rfl, wi_X9, wc_X9_halts, by decide, by decide, by decide +kernel⟩, wn_X9_halts, ws_X9_halts, by decide, rfl⟩
set_option maxRecDepth 100000 in
theorem cl_L_63 : bq_CV RL 63 MX9_undo 0 9 := ⟨⟨bq_mem (List.mem_of_getElem? (i := 949) (by decide +kernel)) rfl, wi_X9, wc_X9_undo, by decide, by decide, by decide +kernel⟩, wn_X9_undo, ws_X9_undo, by decide, rfl⟩
set_option maxRecDepth 100000 in
theorem cl_L_67 : bq_CV RL 67 MX9_stands 1 9 := ⟨⟨bq_mem (List.mem_of_getElem? (i := 953) (by decide +kernel)) rfl, wi_X9, wc_X9_stands, by decide, by decide, by decide +kernel⟩, wn_X9_stands, ws_X9_stands, by decide, rfl⟩
set_option maxRecDepth 100000 in
theorem cl_X9_141 : bq_CV RX9 141 MX9_holds 0 9 := ⟨⟨bq_mem (List.mem_of_getElem? (i := 957) (by decide +kernel)) rfl, wi_X9, wc_X9_holds, by decide, by decide, by decide +kernel⟩, wn_X9_holds, ws_X9_holds, by decide, rfl⟩
set_option maxRecDepth 100000 in
theorem cl_X9_144 : bq_CV RX9 144 MX9_lets 0 9 := ⟨⟨bq_mem (List.mem_of_getElem? (i := 961) (by decide +kernel)) rfl, wi_X9, wc_X9_lets, by decide, by decide, by decide +kernel⟩, wn_X9_lets, ws_X9_lets, by decide, rfl⟩
set_option maxRecDepth 100000 in
theorem cl_L_71 : bq_CV RL 71 MX9_above 0 9 := ⟨⟨bq_mem (List.mem_of_getElem? (i := 965) (by decide +kernel)) rfl, wi_X9, wc_X9_above, by decide, by decide, by decide +kernel⟩, wn_X9_above, ws_X9_above, by decide, rfl⟩
set_option maxRecDepth 100000 in
theorem cl_L_75 : bq_CV RL 75 MX9_most 1 9 := ⟨⟨bq_mem (List.mem_of_getElem? (i := 969) (by decide +kernel)) rfl, wi_X9, wc_X9_most, by decide, by decide, by decide +kernel⟩, wn_X9_most, ws_X9_most, by decide, rfl⟩
set_option maxRecDepth 100000 in
theorem cl_X9_147 : bq_CV RX9 147 MX9_highest 1 9 := ⟨⟨bq_mem (List.mem_of_getElem? (i := 973) (by decide +kernel)) rfl, wi_X9, wc_X9_highest, by decide, by decide, by decide +kernel⟩, wn_X9_highest, ws_X9_highest, by decide, rfl⟩
set_option maxRecDepth 100000 in
theorem cl_L_79 : bq_CV RL 79 MX9_teach 1 9 := ⟨⟨bq_mem (List.mem_of_getElem? (i := 977) (by decide +kernel)) rfl, wi_X9, wc_X9_teach, by decide, by decide, by decide +kernel⟩, wn_X9_teach, ws_X9_teach, by decide, rfl⟩
set_option maxRecDepth 100000 in
theorem cl_X9_150 : bq_CV RX9 150 MX9_fewest 2 9 := ⟨⟨bq_mem (List.mem_of_getElem? (i := 981) (by decide +kernel)) rfl, wi_X9, wc_X9_fewest, by decide, by decide, by decide +kernel⟩, wn_X9_fewest, ws_X9_fewest, by decide, rfl⟩
set_option maxRecDepth 100000 in
theorem cl_L_83 : bq_CV RL 83 MX9_burn 1 9 := ⟨⟨bq_mem (List.mem_of_getElem? (i := 985) (by decide +kernel)) rfl, wi_X9, wc_X9_burn, by decide, by decide, by decide +kernel⟩, wn_X9_burn, ws_X9_burn, by decide, rfl⟩
set_option maxRecDepth 100000 in
theorem cl_L_87 : bq_CV RL 87 MX9_stair 1 9 := ⟨⟨bq_mem (List.mem_of_getElem? (i := 989) (by decide +kernel)) rfl, wi_X9, wc_X9_stair, by decide, by decide, by decide +kernel⟩, wn_X9_stair, ws_X9_stair, by decide, rfl⟩
set_option maxRecDepth 100000 in
theorem cl_L_91 : bq_CV RL 91 MX9_drain 1 9 := ⟨⟨bq_mem (List.mem_of_getElem? (i := 993) (by decide +kernel)) rfl, wi_X9, wc_X9_drain, by decide, by decide, by decide +kernel⟩, wn_X9_drain, ws_X9_drain, by decide, rfl⟩
set_option maxRecDepth 100000 in
theorem cl_L_96 : bq_CV RL 96 MX9_flow 1 9 := ⟨⟨bq_mem (List.mem_of_getElem? (i := 997) (by decide +kernel)) rfl, wi_X9, wc_X9_flow, by decide, by decide, by decide +kernel⟩, wn_X9_flow, ws_X9_flow, by decide, rfl⟩
set_option maxRecDepth 100000 in
theorem cl_X9_156 : bq_CS RX9 156 MX9_common 2 := ⟨⟨bq_mem (List.mem_of_getElem? (i := 1002) (by decide +kernel)) rfl, wi_X9, wc_X9_common, by decide, by decide, by decide +kernel⟩, wt_X9_common⟩
set_option maxRecDepth 100000 in
theorem cl_L_101 : bq_CV RL 101 MX9_splitOn 3 9 := ⟨⟨bq_mem (List.mem_of_getElem? (i := 1005) (by decide +kernel)) rfl, wi_X9, wc_X9_splitOn, by decide, by decide, by decide +kernel⟩, wn_X9_splitOn, ws_X9_splitOn, by decide, rfl⟩
set_option maxRecDepth 100000 in
theorem cl_L_105 : bq_CV RL 105 MX9_price 2 9 := ⟨⟨bq_mem (List.mem_of_getElem? (i := 1009) (by decide +kernel)) rfl, wi_X9, wc_X9_price, by decide, by decide, by decide +kernel⟩, wn_X9_price, ws_X9_price, by decide, rfl⟩
set_option maxRecDepth 100000 in
theorem cl_L_109 : bq_CV RL 109 MX9_heard 1 9 := ⟨⟨bq_mem (List.mem_of_getElem? (i := 1013) (by decide +kernel)) rfl, wi_X9, wc_X9_heard, by decide, by decide, by decide +kernel⟩, wn_X9_heard, ws_X9_heard, by decide, rfl⟩
set_option maxRecDepth 100000 in
theorem cl_L_113 : bq_CV RL 113 MX9_measured 2 9 := ⟨⟨bq_mem (List.mem_of_getElem? (i := 1017) (by decide +kernel)) rfl, wi_X9, wc_X9_measured, by decide, by decide, by decide +kernel⟩, wn_X9_measured, ws_X9_measured, by decide, rfl⟩
set_option maxRecDepth 100000 in
theorem cl_L_117 : bq_CV RL 117 MX9_forget 0 9 := ⟨⟨bq_mem (List.mem_of_getElem? (i := 1021) (by decide +kernel)) rfl, wi_X9, wc_X9_forget, by decide, by decide, by decide +kernel⟩, wn_X9_forget, ws_X9_forget, by decide, rfl⟩
set_option maxRecDepth 100000 in
theorem cl_L_121 : bq_CV RL 121 MX9_splitFirst 0 9 := ⟨⟨bq_mem (List.mem_of_getElem? (i := 1025) (by decide +kernel)) rfl, wi_X9, wc_X9_splitFirst, by decide, by decide, by decide +kernel⟩, wn_X9_splitFirst, ws_X9_splitFirst, by decide, rfl⟩
set_option maxRecDepth 100000 in
theorem cl_X9_160 : bq_CV RX9 160 MX9_isSo 0 9 := ⟨⟨bq_mem (List.mem_of_getElem? (i := 1029) (by decide +kernel)) rfl, wi_X9, wc_X9_isSo, by decide, by decide, by decide +kernel⟩, wn_X9_isSo, ws_X9_isSo, by decide, rfl⟩
set_option maxRecDepth 100000 in
theorem cl_L_126 : bq_CV RL 126 MX9_odds 5 9 := ⟨⟨bq_mem (List.mem_of_getElem? (i := 1033) (by decide +kernel)) rfl, wi_X9, wc_X9_odds, by decide, by decide, by decide +kernel⟩, wn_X9_odds, ws_X9_odds, by decide, rfl⟩
set_option maxRecDepth 100000 in
theorem cl_L_130 : bq_CV RL 130 MX9_rate 2 9 := ⟨⟨bq_mem (List.mem_of_getElem? (i := 1038) (by decide +kernel)) rfl, wi_X9, wc_X9_rate, by decide, by decide, by decide +kernel⟩, wn_X9_rate, ws_X9_rate, by decide, rfl⟩
set_option maxRecDepth 100000 in
theorem cl_L_134 : bq_CV RL 134 MX9_keep 1 9 := ⟨⟨bq_mem (List.mem_of_getElem? (i := 1047) (by decide +kernel)) rfl, wi_X9, wc_X9_keep, by decide, by decide, by decide +kernel⟩, wn_X9_keep, ws_X9_keep, by decide, rfl⟩
set_option maxRecDepth 100000 in
theorem cl_L_138 : bq_CV RL 138 MX9_back 1 9 := ⟨⟨bq_mem (List.mem_of_getElem? (i := 1051) (by decide +kernel)) rfl, wi_X9, wc_X9_back, by decide, by decide, by decide +kernel⟩, wn_X9_back, ws_X9_back, by decide, rfl⟩
set_option maxRecDepth 100000 in
theorem cl_L_142 : bq_CV RL 142 MX9_count 1 9 := ⟨⟨bq_mem (List.mem_of_getElem? (i := 1055) (by decide +kernel)) rfl, wi_X9, wc_X9_count, by decide, by decide, by decide +kernel⟩, wn_X9_count, ws_X9_count, by decide, rfl⟩
set_option maxRecDepth 100000 in
theorem cl_L_147 : bq_CV RL 147 MX9_trace 0 9 := ⟨⟨bq_mem (List.mem_of_getElem? (i := 1059) (by decide +kernel)) rfl, wi_X9, wc_X9_trace, by decide, by decide, by decide +kernel⟩, wn_X9_trace, ws_X9_trace, by decide, rfl⟩
end
section
/-! making cells; static arrays; nest calls; switches -/
def bq_Fr (R : bq_RR) (I : bq_IR) (L : bq_LR) (n : Nat) : Prop := ∀ a, n ≤ a → R a = (fun _ => none) ∧ I a = (fun _ => 0) ∧ L a = (fun _ => 0)
theorem bq_Fr.s {R : bq_RR} {I : bq_IR} {L : bq_LR} {n m : Nat} (h : bq_Fr R I L n) (hm : n ≤ m) : bq_Fr R I L m := fun a ha => h a (Nat.le_trans hm ha)
theorem bq_Fr.r {R : bq_RR} {I : bq_IR} {L : bq_LR} {n b : Nat} {f : Nat → Option Nat} (h : bq_Fr R I L n) (hb : b < n) : bq_Fr (bq_sr R b f) I L n := fun a ha => ⟨by rw [bq_sr_n (by omega)]; exact (h a ha).1, (h a ha).2⟩
theorem bq_Fr.i {R : bq_RR} {I : bq_IR} {L : bq_LR} {n b : Nat} {f : Nat → Int32} (h : bq_Fr R I L n) (hb : b < n) : bq_Fr R (bq_sr I b f) L n := fun a ha => ⟨(h a ha).1, by rw [bq_sr_n (by omega)]; exact (h a ha).2.1, (h a ha).2.2⟩
theorem bq_Fr.l {R : bq_RR} {I : bq_IR} {L : bq_LR} {n b : Nat} {f : Nat → Int64} (h : bq_Fr R I L n) (hb : b < n) : bq_Fr R I (bq_sr L b f) n := fun a ha => ⟨(h a ha).1, (h a ha).2.1, by rw [bq_sr_n (by omega)]; exact (h a ha).2.2⟩
theorem bq_ws_push {z : Nat} {D : bq_D} {n : Nat} {R : bq_RR} {I : bq_IR} {L : bq_LR} : bq_ws z D (n + 1) R I L = bq_ws z D n R I L ++ [(z + n, bq_cell D (bq_sh n) (R n) (I n) (L n))] := by
  simp [bq_ws, List.range_succ]
theorem bq_Rel.push {z : Nat} {D : bq_D} {n : Nat} {R : bq_RR} {I : bq_IR} {L : bq_LR} {H H1 : Heap} (hR : bq_Rel z D n R I L H) (hz : H1.size = H.size + 1) (o1 : ∀ q, q < H.size → H1[q]? = H[q]?) (he : va_at D.1 vwCl (z + n, bq_cell D (bq_sh n) (R n) (I n) (L n)) H1) : bq_Rel z D (n + 1) R I L H1 := by
  refine ⟨by rw [hz, hR.1]; omega, ?_⟩
  rw [bq_ws_push]
  refine (hR.2.kept (fun k x hx => o1 x.1 ((hR.2 k x hx).lt))).app (fun k x hx => ?_)
  have hz : k < 1 := (List.getElem?_eq_some_iff.mp hx).1
  rw [show k = 0 by omega] at hx
  cases hx
  exact he
theorem bq_S_push {z : Nat} {H0 H H1 : Heap} {locs : List Loc} (hS : va_S (fun q => z ≤ q) H0 H locs) (hz : H1.size = H.size + 1) (o1 : ∀ q, q < H.size → H1[q]? = H[q]?) : va_S (fun q => z ≤ q) H0 H1 locs := ⟨Nat.le_trans hS.1 (by omega), fun x h1 h2 => (o1 x (Nat.lt_of_lt_of_le h1 hS.1)).trans (hS.2.1 x h1 h2), hS.2.2⟩
theorem bq_def {ci : Nat} (h : ci < 10) : ∀ j, j < bq_nf ci → defaultValue (bq_ty ci j) = bq_fv (bq_ty ci j) none 0 0 := bq_cases (P := fun ci => ∀ j, j < bq_nf ci → defaultValue (bq_ty ci j) = bq_fv (bq_ty ci j) none 0 0) (by decide +kernel) (by decide +kernel) (by decide +kernel) (by decide +kernel) (by decide +kernel) (by decide +kernel) (by decide +kernel) (by decide +kernel) (by decide +kernel) (by decide +kernel) h
section BqMore
variable {cc : ByteArray} {own nm : String} {nL z : Nat} {Rm : Room} {A : bq_A} {cells slots pc q n : Nat} {ls : bq_LS} {st : List Value} {R : bq_RR} {I : bq_IR} {L : bq_LR}
theorem bq_new (G : bq_Cx cc own nL z Rm nm A) {ci idx : Nat} (hd : decode cc pc = .ok (.new idx, 3)) (hp : pc + 3 = q) (hci : ci < 10) (hl0 : Cond.classLink own idx (bq_Rn ci) ∈ bq_tbl) (hin : Cond.instantiable (bq_Rn ci) (bq_nf ci) ∈ bq_tbl) (hini : Cond.initialized (bq_Rn ci) ∈ bq_tbl) (hsh : bq_sh n = .inl ci) (hF : bq_Fr R I L n) (hc : cells + 1 ≤ Rm.cells) (hs : slots + bq_nf ci ≤ Rm.slots) (k : A (cells + 1) (slots + bq_nf ci) q ls (.ref (z + n) :: st) (n + 1) R I L) : A cells slots pc ls st n R I L := by
  obtain ⟨p, l, e, s, m, args, below, meth, c, D, Q, hx, hb, hml, hown, hts, hK, hz, hnm, rfl⟩ := G
  subst hp
  intro H locs arr hR hS hl
  have hKn := hK.1.1 ci _ (bq_cl hci)
  refine W.newcK hx hb hown (hts _ hl0) (hts _ hin) (hts _ hini) rfl hd hc hs hKn.2.1 hR.1 fun H1 kC hkC e1 z1 o1 => ?_
  have z1' : H1.size = H.size + 1 := by rw [z1, hR.1]
  have o1' : ∀ q, q < H.size → H1[q]? = H[q]? := fun q hq => o1 q (by rw [← hR.1]; exact hq)
  refine k H1 locs arr (hR.push z1' o1' ?_) (bq_S_push hS z1' o1') hl
  rw [hsh, (hF n (Nat.le_refl n)).1, (hF n (Nat.le_refl n)).2.1, (hF n (Nat.le_refl n)).2.2]
  refine ⟨_, bq_cl hci, (u_born (bq_ty ci) hts (bq_in hci) hKn hkC e1 (bq_tyok hci)).to (fun j hj => ?_)⟩
  rw [bq_def hci j hj]
  unfold vp_V
  rw [List.getD_eq_getElem?_getD, bq_fl_get hj]
  rfl
theorem bq_newa (G : bq_Cx cc own nL z Rm nm A) {t len : Nat} {i : Int32} {at0 : ArrayType} (hd : decode cc pc = .ok (.newarray at0, 2)) (hp : pc + 2 = q) (hw : Cond.arrayClass (newarray.typeOf at0) ∈ bq_tbl) (hat : (at0 = .int ∧ t = 0) ∨ (at0 = .long ∧ t = 1) ∨ (at0 = .boolean ∧ t = 2)) (hsh : bq_sh n = .inr (t, len)) (hF : bq_Fr R I L n) (hi : i = nI len) (hlen : len < 1000) (hc : cells + 1 ≤ Rm.cells) (hs : slots + len ≤ Rm.slots) (k : A (cells + 1) (slots + len) q ls (.ref (z + n) :: st) (n + 1) R I L) : A cells slots pc ls (.int i :: st) n R I L := by
  obtain ⟨p, l, e, s, m, args, below, meth, c, D, Q, hx, hb, hml, hown, hts, hK, hz, hnm, rfl⟩ := G
  subst hp
  subst hi
  intro H locs arr hR hS hl
  have hbytes : len * componentBytes (newarray.typeOf at0) ≤ 536870912 := by
    rcases hat with ⟨rfl, -⟩ | ⟨rfl, -⟩ | ⟨rfl, -⟩ <;> (simp only [newarray.typeOf, componentBytes]; omega)
  refine va_newaK hx hb (hts _ hw) rfl hd rfl (nI_pos (by omega)) (nI_clamp (by omega)) hbytes hc hs hR.1 fun H1 cA e1 z1 o1 hAr hNm => ?_
  have z1' : H1.size = H.size + 1 := by rw [z1, hR.1]
  have o1' : ∀ q, q < H.size → H1[q]? = H[q]? := fun q hq => o1 q (by rw [← hR.1]; exact hq)
  refine k H1 locs arr (hR.push z1' o1' ?_) (bq_S_push hS z1' o1') hl
  rw [hsh, (hF n (Nat.le_refl n)).1, (hF n (Nat.le_refl n)).2.1, (hF n (Nat.le_refl n)).2.2]
  rcases hat with ⟨rfl, rfl⟩ | ⟨rfl, rfl⟩ | ⟨rfl, rfl⟩
  · have hcA : cA = D.2.1 0 := Option.some.inj (hNm.symm.trans (hK.1.2 0 _ rfl).2)
    subst hcA
    exact e1
  · have hcA : cA = D.2.1 1 := Option.some.inj (hNm.symm.trans (hK.1.2 1 _ rfl).2)
    subst hcA
    exact e1
  · have hcA : cA = D.2.1 2 := Option.some.inj (hNm.symm.trans (hK.1.2 2 _ rfl).2)
    subst hcA
    exact e1
theorem bq_newr (G : bq_Cx cc own nL z Rm nm A) {len idx : Nat} {i : Int32} (hd : decode cc pc = .ok (.anewarray idx, 3)) (hp : pc + 3 = q) (hl0 : Cond.classLink own idx RX5 ∈ bq_tbl) (hsh : bq_sh n = .inr (3, len)) (hF : bq_Fr R I L n) (hi : i = nI len) (hlen : len < 1000) (hc : cells + 1 ≤ Rm.cells) (hs : slots + len ≤ Rm.slots) (k : A (cells + 1) (slots + len) q ls (.ref (z + n) :: st) (n + 1) R I L) : A cells slots pc ls (.int i :: st) n R I L := by
  obtain ⟨p, l, e, s, m, args, below, meth, c, D, Q, hx, hb, hml, hown, hts, hK, hz, hnm, rfl⟩ := G
  subst hp
  subst hi
  intro H locs arr hR hS hl
  have hcl := nI_clamp (n := len) (by omega)
  refine W.anew hx hb hown (hts _ hl0) (va_AO.use hK.2.2.1) rfl hd rfl (nI_pos (by omega)) (by rw [hcl]; omega) hc (by rw [hcl]; exact hs) fun cA kA comp f1 f2 f3 f4 => ?_
  rw [hcl]
  generalize hH1 : H.push ({ cls := cA, slots := Array.replicate len .null, vm := .none } : Cell) = H1
  have z1 : H1.size = H.size + 1 := by rw [← hH1, Array.size_push]
  have e1 : H1[H.size]? = some (arrV cA len (fun _ => .null)) := by rw [← hH1, Array.getElem?_push_size, ← arrV_new]
  have o1 : ∀ q : Nat, q < H.size → H1[q]? = H[q]? := fun q hq => by rw [← hH1, Array.getElem?_push, if_neg (Nat.ne_of_lt hq)]
  obtain ⟨kA', comp', g1, g2, g3, g4⟩ := (hK.1.2 3 _ rfl).2
  have hcA : cA = D.2.1 3 := Option.some.inj (f1.symm.trans g4)
  subst hcA
  have k' := k H1 locs arr (hR.push z1 o1 (by
    rw [hsh, (hF n (Nat.le_refl n)).1, (hF n (Nat.le_refl n)).2.1, (hF n (Nat.le_refl n)).2.2, ← hR.1]
    show H1[H.size]? = some (vp_cell _ _)
    rw [vp_cell_q]
    exact e1)) (bq_S_push hS z1 o1) hl
  rw [← hR.1] at k'
  exact k'
theorem bq_aast (G : bq_Cx cc own nL z Rm nm A) {a len b v : Nat} {i : Int32} (hd : decode cc pc = .ok (.aastore, 1)) (hp : pc + 1 = q) (ho : bq_AR n a 3 len) (hv : bq_OB n v 5) (hi : i = nI b) (hb : b < len) (hlen : len < 2 ^ 31) (k : A cells slots q ls st n (bq_sr R a (va_up (R a) b (some (z + v)))) I L) : A cells slots pc ls (.ref (z + v) :: .int i :: .ref (z + a) :: st) n R I L := by
  obtain ⟨p, l, e, s, m, args, below, meth, c, D, Q, hx, hbb, hml, hown, hts, hK, hz, hnm, rfl⟩ := G
  subst hp
  subst hi
  intro H locs arr hR hS hl
  obtain ⟨r', hr', cellV, g1, g2, g3, -⟩ := hR.2 v _ (bq_obj hv)
  have hcls := (hK.1.1 5 _ (bq_cl (by decide))).2
  obtain ⟨kA, comp, k1, k2, k3, -⟩ := (hK.1.2 3 _ rfl).2
  have hcomp : comp = D.1.1 5 := Option.some.inj (k3.symm.trans hcls.1)
  subst hcomp
  obtain ⟨kC, hkC, -⟩ := hcls.2
  have hcl := nI_clamp (n := b) (Nat.lt_trans hb hlen)
  refine W.aast hx hbb (hR.2 a _ (bq_arR ho)) (fun q h => by cases h) (fun h => by cases h) k1 k2 rfl hkC ⟨nI_pos (Nat.lt_trans hb hlen), by rw [hcl]; show _ < (arrV _ _ _).slots.size; rw [arrV_size]; exact hb⟩ g1 (fun q h => by rw [g3] at h; cases h) (by rw [g2]; exact hkC) (by rw [g2]; exact va_assign hcls) rfl rfl hd fun H1 e z1 oq => ?_
  refine k H1 _ arr (hR.put ho.1 ?_ z1 oq (fun y hy => bq_sr_n hy) (fun _ _ => rfl) (fun _ _ => rfl)) (hS.put z1 oq (Nat.le_add_right z a)) hl
  rw [ho.2, bq_sr_s]
  show H1[z + a]? = some (vp_cell _ _)
  rw [e]
  rw [vp_cell_q, vp_cell_q, arrV_store, hcl]
  congr 2
  funext q
  by_cases hq : q = b
  · subst hq
    simp [updV, va_up, va_rf]
  · simp [updV, va_up, hq]
theorem bq_objInit (G : bq_Cx cc own nL z Rm nm A) {a idx : Nat} (hd : decode cc pc = .ok (.invokespecial idx, 3)) (hp : pc + 3 = q) (hw : Cond.methodLink own idx Lib.objectInit ∈ bq_tbl) (hfr : 1 ≤ Rm.frames) (hlo : (st.map fun v => v.category).sum + 12 ≤ Rm.locals) (k : A cells slots q ls st n R I L) : A cells slots pc ls (.ref a :: st) n R I L := by
  obtain ⟨p, l, e, s, m, args, below, meth, c, D, Q, hx, hb, hml, hown, hts, hK, hz, hnm, rfl⟩ := G
  subst hp
  intro H locs arr hR hS hl
  refine W.objInit hx hb hown (hts _ hw) (hts _ wn_obj) (hts _ wc_obj) (g := F0 m pc arr (.ref a :: st)) rfl (by rw [hml]; exact hl.1) rfl hd hfr (by show 2 * 0 + _ + 12 ≤ _; omega) ?_
  exact k H locs arr hR hS hl
/-- a static array: how its places are read -/
def bq_SR (A : bq_A) (cc : ByteArray) (t len : Nat) (f : Nat → Value) : Prop :=
  (∀ (cells slots pc q n b : Nat) (ls : bq_LS) (st : List Value) (R : bq_RR) (I : bq_IR) (L : bq_LR), decode cc pc = .ok (.iaload, 1) → pc + 1 = q → b < len → A cells slots q ls (f b :: st) n R I L → A cells slots pc ls (.int (nI b) :: .ref t :: st) n R I L) ∧
  (∀ (cells slots pc q n : Nat) (ls : bq_LS) (st : List Value) (R : bq_RR) (I : bq_IR) (L : bq_LR), decode cc pc = .ok (.arraylength, 1) → pc + 1 = q → A cells slots q ls (.int (nI len) :: st) n R I L → A cells slots pc ls (.ref t :: st) n R I L)
theorem bq_gets (G : bq_Cx cc own nL z Rm nm A) {idx len : Nat} {f : Nat → Value} {C fn : String} (hd : decode cc pc = .ok (.getstatic idx, 3)) (hp : pc + 3 = q) (hw : Cond.fieldLink own idx C fn "[I" ∈ bq_tbl) (hwh : (C = RX0 ∧ fn = "AT_FIRST" ∧ len = 5 ∧ f = bq_AF) ∨ (C = RX7 ∧ fn = "LEAST" ∧ len = 8 ∧ f = bq_LE) ∨ (C = RX7 ∧ fn = "GREATEST" ∧ len = 8 ∧ f = bq_GR)) (k : ∀ t : Nat, bq_SR A cc t len f → A cells slots q ls (.ref t :: st) n R I L) : A cells slots pc ls st n R I L := by
  obtain ⟨p, l, e, s, m, args, below, meth, c, D, Q, hx, hb, hml, hown, hts, hK, hz, hnm, rfl⟩ := G
  subst hp
  intro H locs arr hR hS hl
  have key : ∀ (t len : Nat) (f : Nat → Value), len < 2 ^ 31 → va_T .int t len f (fun q => z ≤ q) s s.heap → bq_SR (fun cells slots pc ls st n R I L => ∀ (H : Heap) (locs : List Loc) (arr : Array Slot), bq_Rel z D n R I L H → va_S (fun q => z ≤ q) s.heap H locs → bq_LV arr nL ls → W p l e Rm s m args below meth c H locs cells slots Q (F0 m pc arr st)) cc t len f := by
    intro t len f hlen hT
    refine ⟨?_, ?_⟩
    · intro cells slots pc q n b ls st R I L hd hp hbl kk H locs arr hR hS hl
      subst hp
      refine va_ti hx hb hT hS (vp_in_nI hbl hlen) (v := f b) (by rw [nI_clamp (Nat.lt_trans hbl hlen)]) hd (kk H locs arr hR hS hl)
    · intro cells slots pc q n ls st R I L hd hp kk H locs arr hR hS hl
      subst hp
      exact va_tlen hx hb hT hS rfl hd (kk H locs arr hR hS hl)
  rcases hwh with ⟨rfl, rfl, rfl, rfl⟩ | ⟨rfl, rfl, rfl, rfl⟩ | ⟨rfl, rfl, rfl, rfl⟩
  · exact va_gets hx hb hK.2.2.2.1.1 hS hown (hts _ hw) (fun _ h => h) hd (k _ (key _ _ _ (by decide) hK.2.2.2.1.2) H locs arr hR hS hl)
  · exact va_gets hx hb hK.2.2.2.2.1.1 hS hown (hts _ hw) (fun _ h => h) hd (k _ (key _ _ _ (by decide) hK.2.2.2.2.1.2) H locs arr hR hS hl)
  · exact va_gets hx hb hK.2.2.2.2.2.1.1 hS hown (hts _ hw) (fun _ h => h) hd (k _ (key _ _ _ (by decide) hK.2.2.2.2.2.1.2) H locs arr hR hS hl)
/-- nest mates: bitOf, and the two private constructors -/
theorem bq_callsN (G : bq_Cx cc own nL z Rm nm A) {idx n' mc ms : Nat} {res : Option Value} {R' : bq_RR} {I' : bq_IR} {L' : bq_LR} {rest As : List Value} (hd : decode cc pc = .ok (.invokestatic idx, 3)) (hp : pc + 3 = q) (hw : (own = RX7 ∧ idx = 61) ∨ (own = RX5 ∧ idx = 43)) (F : bq_FC MX8_bitOf z As n R I L mc ms res n' R' I' L') (hs : st = As.reverse ++ rest) (hnp : As.length = 2) (hfit : bq_fit MX8_bitOf Rm) (hroom : (rest.map fun v => v.category).sum ≤ 8) (hcs : cells + mc ≤ Rm.cells ∧ slots + ms ≤ Rm.slots) {st' : List Value} (hst : res.toList ++ rest = st') (k : A (cells + mc) (slots + ms) q ls st' n' R' I' L') : A cells slots pc ls st n R I L := by
  obtain ⟨p, l, e, s, m, args, below, meth, c, D, Q, hx, hb, hml, hown, hts, hK, hz, hnm, rfl⟩ := G
  subst hp
  subst hst
  intro H locs arr hR hS hl
  have hN : va_Nw (.methodLinkNest own idx yX8_bitOf RX8) s := by
    rcases hw with ⟨rfl, rfl⟩ | ⟨rfl, rfl⟩
    · exact hK.2.1.2.2.1
    · exact hK.2.1.2.2.2
  exact bq_cont (va_runSN (As := As) (rest := rest) ⟨hx, hb, hml, hown, hts⟩ (F l D) ⟨va_cnB 2 hts (bq_goodIn wc_X8_bitOf) rfl rfl rfl hN (hts _ wi_X8) ⟨by decide, by decide, by decide +kernel⟩ hfit, hts _ wt_X8_bitOf, trivial⟩ (bq_pre (av := As) hK hS hR) rfl hnp hl.1 hs (lv_room hroom) hd hcs) hS (fun H1 locs1 hR1 hS1 => k H1 locs1 arr hR1 hS1 hl)
theorem bq_calliN (G : bq_Cx cc own nL z Rm nm A) {M : bq_M} {idx n' mc ms a : Nat} {res : Option Value} {R' : bq_RR} {I' : bq_IR} {L' : bq_LR} {rest : List Value} (hd : decode cc pc = .ok (.invokespecial idx, 3)) (hp : pc + 3 = q) (hw : own = RX8 ∧ ((idx = 67 ∧ M = MX1_init) ∨ (idx = 78 ∧ M = MX2_init))) (F : bq_FC M z [.ref (z + a)] n R I L mc ms res n' R' I' L') (hs : st = .ref (z + a) :: rest) (hfit : bq_fit M Rm) (hroom : (rest.map fun v => v.category).sum ≤ 8) (hcs : cells + mc ≤ Rm.cells ∧ slots + ms ≤ Rm.slots) {st' : List Value} (hst : res.toList ++ rest = st') (k : A (cells + mc) (slots + ms) q ls st' n' R' I' L') : A cells slots pc ls st n R I L := by
  obtain ⟨p, l, e, s, m, args, below, meth, c, D, Q, hx, hb, hml, hown, hts, hK, hz, hnm, rfl⟩ := G
  subst hp
  subst hst
  intro H locs arr hR hS hl
  obtain ⟨rfl, ⟨rfl, rfl⟩ | ⟨rfl, rfl⟩⟩ := hw
  · exact bq_cont (va_runIN (As := []) (rest := rest) ⟨hx, hb, hml, hown, hts⟩ (F l D) ⟨va_cnB 0 hts (bq_goodIn wc_X1_init) rfl rfl rfl hK.2.1.1 (hts _ wi_X1) ⟨by decide, by decide, by decide +kernel⟩ hfit, rfl, hts _ wn_X1_init⟩ (bq_pre (av := [.ref (z + a)]) hK hS hR) rfl rfl hl.1 hs (lv_room hroom) hd hcs) hS (fun H1 locs1 hR1 hS1 => k H1 locs1 arr hR1 hS1 hl)
  · exact bq_cont (va_runIN (As := []) (rest := rest) ⟨hx, hb, hml, hown, hts⟩ (F l D) ⟨va_cnB 0 hts (bq_goodIn wc_X2_init) rfl rfl rfl hK.2.1.2.1 (hts _ wi_X2) ⟨by decide, by decide, by decide +kernel⟩ hfit, rfl, hts _ wn_X2_init⟩ (bq_pre (av := [.ref (z + a)]) hK hS hR) rfl rfl hl.1 hs (lv_room hroom) hd hcs) hS (fun H1 locs1 hR1 hS1 => k H1 locs1 arr hR1 hS1 hl)
theorem bq_ifnull (G : bq_Cx cc own nL z Rm nm A) {x : Nat} {off : Int} (hd : decode cc pc = .ok (.ifnull off, 3)) (hp : pc + 3 = q) (k : A cells slots q ls st n R I L) : A cells slots pc ls (.ref x :: st) n R I L := by
  obtain ⟨p, l, e, s, m, args, below, meth, c, D, Q, hx, hb, hml, hown, hts, hK, hz, hnm, rfl⟩ := G
  subst hp
  intro H locs arr hR hS hl
  exact lv_ifnull hx hb hd (k H locs arr hR hS hl)
theorem bq_tswIn (G : bq_Cx cc own nL z Rm nm A) {dflt lo hi : Int} {offs : Array Int} {len : Nat} {x : Int32} {off : Int} {t : Nat} (hd : decode cc pc = .ok (.tableswitch dflt lo hi offs, len)) (h1 : ¬ x.toInt < lo) (h2 : ¬ hi < x.toInt) (ho : offs[(x.toInt - lo).toNat]? = some off) (ht : (pc : Int) + off = (t : Int)) (k : A cells slots t ls st n R I L) : A cells slots pc ls (.int x :: st) n R I L := by
  obtain ⟨p, l, e, s, m, args, below, meth, c, D, Q, hx, hb, hml, hown, hts, hK, hz, hnm, rfl⟩ := G
  intro H locs arr hR hS hl
  exact lv_tableIn hx hb hd h1 h2 ho ht (k H locs arr hR hS hl)
theorem bq_tswOut (G : bq_Cx cc own nL z Rm nm A) {dflt lo hi : Int} {offs : Array Int} {len : Nat} {x : Int32} {t : Nat} (hd : decode cc pc = .ok (.tableswitch dflt lo hi offs, len)) (h : x.toInt < lo ∨ hi < x.toInt) (ht : (pc : Int) + dflt = (t : Int)) (k : A cells slots t ls st n R I L) : A cells slots pc ls (.int x :: st) n R I L := by
  obtain ⟨p, l, e, s, m, args, below, meth, c, D, Q, hx, hb, hml, hown, hts, hK, hz, hnm, rfl⟩ := G
  intro H locs arr hR hS hl
  exact lv_tableOut hx hb hd h ht (k H locs arr hR hS hl)
theorem bq_reti {M : bq_M} {mc ms : Nat} {r r' : Int32} {I' : bq_IR} {L' : bq_LR} (h : A mc ms pc ls [.int r] n R I L) (e1 : r' = r) (e2 : I' = I) (e3 : L' = L) : A mc ms pc ls [.int r'] n R I' L' := by subst e1 e2 e3; exact h
end BqMore
end
section
/-! contracts that tell what holds behind the call, of any ints and longs -/
def bq_FP (M : bq_M) (z : Nat) (av : List Value) (n : Nat) (R : bq_RR) (I : bq_IR) (L : bq_LR) (res : Int32 → Option Value) (post : Int32 → bq_IR → bq_LR → Prop) : Prop :=
  ∀ (l : Launch) (D : bq_D), Met l M.1 (Cond.code M.1 M.2.1 M.2.2.1 M.2.2.2.1 :: bq_tbl) (bq_rm M 0 0) (va_Pc av (fun U => bq_KK z D U U.heap ∧ bq_Rel z D n R I L U.heap))
    (fun _ st o t => (∃ (r : Int32) (I' : bq_IR) (L' : bq_LR), o = .returned (res r) ∧ post r I' L' ∧ bq_Rel z D n R I' L' t.heap) ∧ va_F (fun q => z ≤ q) st t) 0 0 (fun q => z ≤ q)
abbrev bq_FI (M : bq_M) (z : Nat) (av : List Value) (n : Nat) (R : bq_RR) (I : bq_IR) (L : bq_LR) (post : Int32 → bq_IR → bq_LR → Prop) : Prop := bq_FP M z av n R I L (fun r => some (.int r)) post
abbrev bq_FV (M : bq_M) (z : Nat) (av : List Value) (n : Nat) (R : bq_RR) (I : bq_IR) (L : bq_LR) (post : bq_IR → bq_LR → Prop) : Prop := bq_FP M z av n R I L (fun _ => none) (fun _ => post)
theorem bq_FP.mono {M : bq_M} {z : Nat} {av : List Value} {n : Nat} {R : bq_RR} {I : bq_IR} {L : bq_LR} {res : Int32 → Option Value} {post post' : Int32 → bq_IR → bq_LR → Prop} (h : bq_FP M z av n R I L res post) (hp : ∀ r I' L', post r I' L' → post' r I' L') : bq_FP M z av n R I L res post' := by
  intro l D p e ha hc hk s m args below hf happ hP hK
  obtain ⟨k, o, h1, h2, h3, ⟨⟨r, I', L', e1, e2, e3⟩, e4⟩, e5⟩ := h l D p e ha hc hk s m args below hf happ hP hK
  exact ⟨k, o, h1, h2, h3, ⟨⟨r, I', L', e1, hp _ _ _ e2, e3⟩, e4⟩, e5⟩
theorem bq_FP.of {M : bq_M} {z : Nat} {av : List Value} {n : Nat} {R : bq_RR} {I : bq_IR} {L : bq_LR} {res : Int32 → Option Value} {post : Int32 → bq_IR → bq_LR → Prop} (ls0 : bq_LS) (hls : bq_pad M.2.2.1 (bq_fl av) = ls0) (hlen : (lg_sl av).length ≤ M.2.2.1) (hy : plainFor M.1 = true)
    (hres : (M.2.2.2.1 = none ∧ ∀ r, res r = none) ∨ (∃ ty : FieldType, M.2.2.2.1 = some ty ∧ (∀ r, res r = some (.int r)) ∧ ∀ r I' L', post r I' L' → narrow ty (.int r) = .int r))
    (h : ∀ A : bq_A, bq_Cx M.2.1 M.1.cls M.2.2.1 z (bq_rm M 0 0) M.1.name A →
      (∀ (pc : Nat) (ls : bq_LS) (r : Int32) (I' : bq_IR) (L' : bq_LR), post r I' L' → (res r = none → decode M.2.1 pc = .ok (.return_, 1) → A 0 0 pc ls [] n R I' L') ∧ (res r = some (.int r) → decode M.2.1 pc = .ok (.ireturn, 1) → A 0 0 pc ls [.int r] n R I' L')) →
      A 0 0 0 ls0 [] n R I L) : bq_FP M z av n R I L res post := by
  intro l D
  refine bq_ofW (cc := M.2.1) (maxL := M.2.2.1) (ret := M.2.2.2.1) hy rfl ?_
  intro p e s m args below meth c s₁ B hml hv
  obtain ⟨rfl, hKK, hRel⟩ := hv
  have hts := atoms_spec (ws := Cond.code M.1 M.2.1 M.2.2.1 M.2.2.2.1 :: bq_tbl) B.pre
  have hown : s.vm.findClass M.1.cls = some m.cls := findClass_of_methodNamed B.named
  have hlocks := B.notSynchronized
  have hr := B.returns
  have hin : meth.name = M.1.name := (name_of_methodNamed B.named B.method).1
  have hz : z ≤ s.heap.size := by rw [hRel.1]; exact Nat.le_add_right _ _
  have hl := lv_entry av (n := M.2.2.1) hlen
  rw [lg_entry_eq]
  generalize (lg_sl av ++ List.replicate (M.2.2.1 - (lg_sl av).length) Slot.unset).toArray = arr at hl ⊢
  have hLV : bq_LV arr M.2.2.1 ls0 := by
    refine ⟨hl.1, hl.2.1, fun k v hk => ?_⟩
    refine hl.2.2 (k, v) ?_
    have h2 : bq_at (bq_fl av) k = some v := bq_pad_at _ _ _ _ (by rw [hls]; exact hk)
    have h3 := bq_ent_at av 0 k v h2
    rwa [Nat.zero_add] at h3
  refine h _ ⟨p, l, e, s, m, av.toArray, below, meth, c, D, MQ below (fun _ st o t => (∃ (r : Int32) (I' : bq_IR) (L' : bq_LR), o = .returned (res r) ∧ post r I' L' ∧ bq_Rel z D n R I' L' t.heap) ∧ va_F (fun q => z ≤ q) st t) av.toArray s 0 0 (fun q => z ≤ q), B.exec, B.bytes, hml, hown, fun w hw => hts w (List.mem_cons_of_mem _ hw), hKK, hz, hin, rfl⟩ ?_ s.heap [] arr hRel va_S.rf hLV
  intro pc ls r I' L' hpost
  refine ⟨fun e hd => ?_, fun e hd => ?_⟩
  · intro H locs arr hR hS hl
    refine W.vret B.exec B.bytes ?_ (fun t ht hW => ⟨⟨r, I', L', by rw [e], hpost, by rw [ht]; exact hR⟩, hS.F ht⟩) hS.2.2 hd
    rcases hres with ⟨h1, -⟩ | ⟨ty, h0, h1, -⟩
    · rw [hr, h1]
    · rw [h1] at e; cases e
  · intro H locs arr hR hS hl
    rcases hres with ⟨-, h1⟩ | ⟨ty, h0, h1, h2⟩
    · rw [h1] at e; cases e
    · exact W.zret B.exec B.bytes (hr.trans h0) (h2 _ _ _ hpost) (fun t ht hW => ⟨⟨r, I', L', by rw [e], hpost, by rw [ht]; exact hR⟩, hS.F ht⟩) hS.2.2 hd
theorem bq_FIof {M : bq_M} {z : Nat} {av : List Value} {n : Nat} {R : bq_RR} {I : bq_IR} {L : bq_LR} {post : Int32 → bq_IR → bq_LR → Prop} (ls0 : bq_LS) (hls : bq_pad M.2.2.1 (bq_fl av) = ls0) (hlen : (lg_sl av).length ≤ M.2.2.1) (hy : plainFor M.1 = true) {ty : FieldType} (hty : M.2.2.2.1 = some ty) (hnar : ∀ r I' L', post r I' L' → narrow ty (.int r) = .int r)
    (h : ∀ A : bq_A, bq_Cx M.2.1 M.1.cls M.2.2.1 z (bq_rm M 0 0) M.1.name A → (∀ (pc : Nat) (ls : bq_LS) (r : Int32) (I' : bq_IR) (L' : bq_LR), decode M.2.1 pc = .ok (.ireturn, 1) → post r I' L' → A 0 0 pc ls [.int r] n R I' L') → A 0 0 0 ls0 [] n R I L) : bq_FI M z av n R I L post :=
  bq_FP.of ls0 hls hlen hy (Or.inr ⟨ty, hty, fun _ => rfl, hnar⟩) fun A G hr => h A G fun pc ls r I' L' hd hp => (hr pc ls r I' L' hp).2 rfl hd
theorem bq_FVof {M : bq_M} {z : Nat} {av : List Value} {n : Nat} {R : bq_RR} {I : bq_IR} {L : bq_LR} {post : bq_IR → bq_LR → Prop} (ls0 : bq_LS) (hls : bq_pad M.2.2.1 (bq_fl av) = ls0) (hlen : (lg_sl av).length ≤ M.2.2.1) (hy : plainFor M.1 = true) (hty : M.2.2.2.1 = none)
    (h : ∀ A : bq_A, bq_Cx M.2.1 M.1.cls M.2.2.1 z (bq_rm M 0 0) M.1.name A → (∀ (pc : Nat) (ls : bq_LS) (I' : bq_IR) (L' : bq_LR), decode M.2.1 pc = .ok (.return_, 1) → post I' L' → A 0 0 pc ls [] n R I' L') → A 0 0 0 ls0 [] n R I L) : bq_FV M z av n R I L post :=
  bq_FP.of ls0 hls hlen hy (Or.inl ⟨hty, fun _ => rfl⟩) fun A G hr => h A G fun pc ls I' L' hd hp => (hr pc ls 0 I' L' hp).1 rfl hd
theorem bq_contP {Rm : Room} {z n cells slots pc : Nat} {R : bq_RR} {st : List Value} {p : Program} {l : Launch} {e : Env} {s : State} {m : MethodId} {args : Array Value} {below : List Frame} {meth : Method} {c : Code} {D : bq_D} {Q : State → Prop} {H : Heap} {locs : List Loc} {arr : Array Slot} {res : Int32 → Option Value} {post : Int32 → bq_IR → bq_LR → Prop} {rest : List Value}
    (hr : va_Run p l e Rm s m args below meth c H locs cells slots 0 0 (F0 m pc arr st) rest (fun st o t => (∃ (r : Int32) (I' : bq_IR) (L' : bq_LR), o = .returned (res r) ∧ post r I' L' ∧ bq_Rel z D n R I' L' t.heap) ∧ va_F (fun q => z ≤ q) st t) (fun q => z ≤ q)) (hS : va_S (fun q => z ≤ q) s.heap H locs)
    (kk : ∀ (r : Int32) (I' : bq_IR) (L' : bq_LR), post r I' L' → ∀ (H1 : Heap) (locs1 : List Loc), bq_Rel z D n R I' L' H1 → va_S (fun q => z ≤ q) s.heap H1 locs1 → W p l e Rm s m args below meth c H1 locs1 cells slots Q (F0 m (pc + 3) arr ((res r).toList ++ rest))) : W p l e Rm s m args below meth c H locs cells slots Q (F0 m pc arr st) := by
  intro T hT X
  obtain ⟨v, st₀, t, T', L0, h0, X', hL, e1, e2, ⟨⟨r, I', L', hv, hp, hb⟩, hz, hk⟩, stp⟩ := hr T hT X
  cases hv
  rw [h0] at hz hk
  obtain ⟨t2, a1, b1⟩ := kk r I' L' hp T'.heap (locs ++ L0) (by rw [e1]; exact hb)
    ⟨Nat.le_trans hS.1 (by rw [e1]; exact hz), fun q h1 h2 => by rw [e1, hk q (Nat.lt_of_lt_of_le h1 hS.1) h2]; exact hS.2.1 q h1 h2, fun q hq => by
      rcases List.mem_append.mp hq with h | h
      · exact hS.2.2 q h
      · exact hL q h⟩ T' rfl X'
  exact ⟨t2, stp t2 a1, b1⟩
section BqCallsP
variable {cc : ByteArray} {own nm : String} {nL z : Nat} {Rm : Room} {A : bq_A} {cells slots pc q n : Nat} {ls : bq_LS} {st : List Value} {R : bq_RR} {I : bq_IR} {L : bq_LR}
variable {M : bq_M} {np idx : Nat} {post : Int32 → bq_IR → bq_LR → Prop} {postv : bq_IR → bq_LR → Prop} {rest As : List Value}
theorem bq_callvI (G : bq_Cx cc own nL z Rm nm A) {a ci : Nat} (hd : decode cc pc = .ok (.invokevirtual idx, 3)) (hp : pc + 3 = q) (hC : bq_CV own idx M np ci) (F : bq_FI M z (.ref (z + a) :: As) n R I L post) (hs : st = As.reverse ++ .ref (z + a) :: rest) (ho : bq_OB n a ci) (hnp : As.length = np) (hfit : bq_fit M Rm) (hroom : (rest.map fun v => v.category).sum ≤ 8) (hcs : cells + 0 ≤ Rm.cells ∧ slots + 0 ≤ Rm.slots) (k : ∀ (r : Int32) (I' : bq_IR) (L' : bq_LR), post r I' L' → A cells slots q ls (.int r :: rest) n R I' L') : A cells slots pc ls st n R I L := by
  obtain ⟨p, l, e, s, m, args, below, meth, c, D, Q, hx, hb, hml, hown, hts, hK, hz, hnm, rfl⟩ := G
  subst hp
  intro H locs arr hR hS hl
  have hpre := bq_pre (av := .ref (z + a) :: As) hK hS hR
  refine bq_contP (va_runV (As := As) (rest := rest) ⟨hx, hb, hml, hown, hts⟩ (F l D) ⟨bq_callB hts hC.1 hfit, hts _ hC.2.1, hts _ hC.2.2.1⟩ ⟨hpre.1, ?_, hpre.2⟩ rfl hnp hl.1 hs (lv_room hroom) hd hcs) hS (fun r I' L' hp H1 locs1 hR1 hS1 => k r I' L' hp H1 locs1 arr hR1 hS1 hl)
  rw [← hC.2.2.2.2]
  exact bq_recv hK hR hC.2.2.2.1 ho
theorem bq_callvV (G : bq_Cx cc own nL z Rm nm A) {a ci : Nat} (hd : decode cc pc = .ok (.invokevirtual idx, 3)) (hp : pc + 3 = q) (hC : bq_CV own idx M np ci) (F : bq_FV M z (.ref (z + a) :: As) n R I L postv) (hs : st = As.reverse ++ .ref (z + a) :: rest) (ho : bq_OB n a ci) (hnp : As.length = np) (hfit : bq_fit M Rm) (hroom : (rest.map fun v => v.category).sum ≤ 8) (hcs : cells + 0 ≤ Rm.cells ∧ slots + 0 ≤ Rm.slots) (k : ∀ (I' : bq_IR) (L' : bq_LR), postv I' L' → A cells slots q ls rest n R I' L') : A cells slots pc ls st n R I L := by
  obtain ⟨p, l, e, s, m, args, below, meth, c, D, Q, hx, hb, hml, hown, hts, hK, hz, hnm, rfl⟩ := G
  subst hp
  intro H locs arr hR hS hl
  have hpre := bq_pre (av := .ref (z + a) :: As) hK hS hR
  refine bq_contP (va_runV (As := As) (rest := rest) ⟨hx, hb, hml, hown, hts⟩ (F l D) ⟨bq_callB hts hC.1 hfit, hts _ hC.2.1, hts _ hC.2.2.1⟩ ⟨hpre.1, ?_, hpre.2⟩ rfl hnp hl.1 hs (lv_room hroom) hd hcs) hS (fun r I' L' hp H1 locs1 hR1 hS1 => k I' L' hp H1 locs1 arr hR1 hS1 hl)
  rw [← hC.2.2.2.2]
  exact bq_recv hK hR hC.2.2.2.1 ho
end BqCallsP
theorem bq_FC.toI {M : bq_M} {z : Nat} {av : List Value} {n : Nat} {R : bq_RR} {I : bq_IR} {L : bq_LR} {r : Int32} {I' : bq_IR} {L' : bq_LR} (h : bq_FC M z av n R I L 0 0 (some (.int r)) n R I' L') {post : Int32 → bq_IR → bq_LR → Prop} (hp : post r I' L') : bq_FI M z av n R I L post := by
  intro l D p e ha hc hk s m args below hf happ hP hK
  obtain ⟨k, o, h1, h2, h3, ⟨e1, e2, e3⟩, e5⟩ := h l D p e ha hc hk s m args below hf happ hP hK
  exact ⟨k, o, h1, h2, h3, ⟨⟨r, I', L', e1, hp, e2⟩, e3⟩, e5⟩
theorem bq_FC.toV {M : bq_M} {z : Nat} {av : List Value} {n : Nat} {R : bq_RR} {I : bq_IR} {L : bq_LR} {I' : bq_IR} {L' : bq_LR} (h : bq_FC M z av n R I L 0 0 none n R I' L') {post : bq_IR → bq_LR → Prop} (hp : post I' L') : bq_FV M z av n R I L post := by
  intro l D p e ha hc hk s m args below hf happ hP hK
  obtain ⟨k, o, h1, h2, h3, ⟨e1, e2, e3⟩, e5⟩ := h l D p e ha hc hk s m args below hf happ hP hK
  exact ⟨k, o, h1, h2, h3, ⟨⟨0, I', L', e1, hp, e2⟩, e3⟩, e5⟩
end
section
/-! the flags, and what a minute is: S is a row of 59 ints (0 minutes, 1 water, 2 peak, 3.. size, 11.. pace, 19.. due, 27.. out, 35.. bored, 43.. wet, 51.. there) -/
def gs_F (S : Nat → Int32) (o : Nat) (w : Int32) : Prop := ∃ x : Nat, x < 256 ∧ w = nI x ∧ ∀ j, j < 8 → S (o + j) = nI (x / 2 ^ j % 2)
theorem gs_t1 : ∀ x, x < 256 → ∀ b, b < 8 → (nI x >>> (nI b &&& 31)) &&& 1 = nI (x / 2 ^ b % 2) := by decide +kernel
theorem gs_t2 : ∀ x, x < 256 → ∀ b, b < 8 → nI x ||| (1 <<< (nI b &&& 31)) = nI (x ||| 2 ^ b) ∧ (x ||| 2 ^ b) < 256 := by decide +kernel
theorem gs_t3 : ∀ x, x < 256 → ∀ b, b < 8 → nI x &&& ((1 <<< (nI b &&& 31)) ^^^ (-1)) = nI (x - (x / 2 ^ b % 2) * 2 ^ b) := by decide +kernel
theorem gs_t4 : ∀ x, x < 256 → ∀ b, b < 8 → nI x ^^^ (1 <<< (nI b &&& 31)) = nI (x ^^^ 2 ^ b) ∧ (x ^^^ 2 ^ b) < 256 := by decide +kernel
set_option maxRecDepth 100000 in
theorem gs_u2 : ∀ x, x < 256 → ∀ b, b < 8 → ∀ j, j < 8 → (x ||| 2 ^ b) / 2 ^ j % 2 = if j = b then 1 else x / 2 ^ j % 2 := by decide +kernel
set_option maxRecDepth 100000 in
theorem gs_u3 : ∀ x, x < 256 → ∀ b, b < 8 → ∀ j, j < 8 → (x - (x / 2 ^ b % 2) * 2 ^ b) / 2 ^ j % 2 = if j = b then 0 else x / 2 ^ j % 2 := by decide +kernel
set_option maxRecDepth 100000 in
theorem gs_u4 : ∀ x, x < 256 → ∀ b, b < 8 → ∀ j, j < 8 → (x ^^^ 2 ^ b) / 2 ^ j % 2 = if j = b then 1 - x / 2 ^ j % 2 else x / 2 ^ j % 2 := by decide +kernel
theorem gs_F.get {S : Nat → Int32} {o : Nat} {w : Int32} (h : gs_F S o w) {b : Nat} (hb : b < 8) : (w >>> (nI b &&& 31)) &&& 1 = S (o + b) := by
  obtain ⟨x, hx, rfl, hS⟩ := h
  rw [gs_t1 x hx b hb, hS b hb]
theorem gs_F.b01 {S : Nat → Int32} {o : Nat} {w : Int32} (h : gs_F S o w) {b : Nat} (hb : b < 8) : S (o + b) = 0 ∨ S (o + b) = 1 := by
  obtain ⟨x, hx, rfl, hS⟩ := h
  rw [hS b hb]
  have : x / 2 ^ b % 2 < 2 := Nat.mod_lt _ (by decide)
  rcases (show x / 2 ^ b % 2 = 0 ∨ x / 2 ^ b % 2 = 1 by omega) with e | e <;> rw [e]
  · exact Or.inl rfl
  · exact Or.inr rfl
theorem gs_F.oth {S : Nat → Int32} {o : Nat} {w : Int32} (h : gs_F S o w) {i : Nat} {v : Int32} (hi : i < o ∨ o + 8 ≤ i) : gs_F (upd S i v) o w := by
  obtain ⟨x, hx, e, hS⟩ := h
  exact ⟨x, hx, e, fun j hj => by rw [pk_un (by omega)]; exact hS j hj⟩
theorem gs_F.set1 {S : Nat → Int32} {o : Nat} {w : Int32} (h : gs_F S o w) {b : Nat} (hb : b < 8) : gs_F (upd S (o + b) 1) o (w ||| (1 <<< (nI b &&& 31))) := by
  obtain ⟨x, hx, rfl, hS⟩ := h
  refine ⟨x ||| 2 ^ b, (gs_t2 x hx b hb).2, (gs_t2 x hx b hb).1, fun j hj => ?_⟩
  rw [gs_u2 x hx b hb j hj]
  by_cases e : j = b
  · subst e; rw [pk_us, if_pos rfl]; rfl
  · rw [pk_un (by omega), if_neg e]; exact hS j hj
theorem gs_F.set0 {S : Nat → Int32} {o : Nat} {w : Int32} (h : gs_F S o w) {b : Nat} (hb : b < 8) : gs_F (upd S (o + b) 0) o (w &&& ((1 <<< (nI b &&& 31)) ^^^ (-1))) := by
  obtain ⟨x, hx, rfl, hS⟩ := h
  refine ⟨_, Nat.lt_of_le_of_lt (Nat.sub_le _ _) hx, gs_t3 x hx b hb, fun j hj => ?_⟩
  rw [gs_u3 x hx b hb j hj]
  by_cases e : j = b
  · subst e; rw [pk_us, if_pos rfl]; rfl
  · rw [pk_un (by omega), if_neg e]; exact hS j hj
theorem gs_F.tog {S : Nat → Int32} {o : Nat} {w : Int32} (h : gs_F S o w) {b : Nat} (hb : b < 8) : gs_F (upd S (o + b) (1 - S (o + b))) o (w ^^^ (1 <<< (nI b &&& 31))) := by
  obtain ⟨x, hx, rfl, hS⟩ := h
  refine ⟨x ^^^ 2 ^ b, (gs_t4 x hx b hb).2, (gs_t4 x hx b hb).1, fun j hj => ?_⟩
  rw [gs_u4 x hx b hb j hj]
  by_cases e : j = b
  · subst e; rw [pk_us, if_pos rfl, hS j hb]
    have : x / 2 ^ j % 2 < 2 := Nat.mod_lt _ (by decide)
    rcases (show x / 2 ^ j % 2 = 0 ∨ x / 2 ^ j % 2 = 1 by omega) with e | e <;> rw [e] <;> rfl
  · rw [pk_un (by omega), if_neg e]; exact hS j hj
theorem gs_F.congr {S S' : Nat → Int32} {o : Nat} {w : Int32} (h : gs_F S o w) (he : ∀ j, j < 8 → S' (o + j) = S (o + j)) : gs_F S' o w := by
  obtain ⟨x, hx, e, hS⟩ := h
  exact ⟨x, hx, e, fun j hj => by rw [he j hj]; exact hS j hj⟩
def gs_ld (S : Nat → Int32) (b : Nat) : Int32 := if S (35 + b) = 1 then S (3 + b) / 2 else S (3 + b)
def gs_cl (v : Int32) : Int32 := if v < 0 then 0 else if 99999 < v then 99999 else v
def gs_1 (b : Nat) (S : Nat → Int32) : Nat → Int32 := upd S (19 + b) (S (19 + b) - S (51 + b))
def gs_wa (b : Nat) (S : Nat → Int32) : Int32 := gs_cl (S 1 + (if S (27 + b) = 1 then -gs_ld S b else gs_ld S b))
def gs_2 (b : Nat) (S : Nat → Int32) : Nat → Int32 := upd (upd (upd S 1 (gs_wa b S)) (19 + b) (S (11 + b))) (43 + b) 1
abbrev gs_X : Type := (Nat → Int32) × Int32 × Int32
def gs_st (b : Nat) (x : gs_X) : gs_X := if gs_1 b x.1 (51 + b) = 1 ∧ gs_1 b x.1 (19 + b) ≤ 0 ∧ 0 < x.2.1 then (gs_2 b (gs_1 b x.1), x.2.1 - 1, x.2.2 ||| (1 <<< (nI b &&& 31))) else (gs_1 b x.1, x.2.1, x.2.2)
def gs_lp : Nat → gs_X → gs_X
  | 0, x => x
  | k + 1, x => gs_st k (gs_lp k x)
def gs_ran (S : Nat → Int32) (d : Int32) : Int32 := if S 1 < d then S 1 else d
def gs_T (w : Int32) (S : Nat → Int32) : gs_X := gs_lp 8 (S, w, 0)
def gs_min (w d : Int32) (S : Nat → Int32) : Nat → Int32 := upd (upd (gs_T w S).1 1 ((gs_T w S).1 1 - gs_ran (gs_T w S).1 d)) 0 ((gs_T w S).1 0 + 1)
def gs_pk (ar : Int32) (S : Nat → Int32) : Nat → Int32 := upd S 2 (if S 2 < S 1 / ar then S 1 / ar else S 2)
def gs_go (w d ar : Int32) (S : Nat → Int32) : Nat → Int32 := gs_pk ar (gs_min w d S)
/-- what stays true of a row -/
def gs_Ok (S : Nat → Int32) : Prop := (0 ≤ S 1 ∧ S 1 ≤ 99999) ∧ ∀ b, b < 8 → (0 ≤ S (3 + b) ∧ S (3 + b) ≤ 64) ∧ (S (51 + b) = 1 → 1 ≤ S (3 + b) ∧ 1 ≤ S (11 + b) ∧ S (11 + b) ≤ 40) ∧ (S (27 + b) = 0 ∨ S (27 + b) = 1) ∧ (S (35 + b) = 0 ∨ S (35 + b) = 1) ∧ (S (43 + b) = 0 ∨ S (43 + b) = 1) ∧ (S (51 + b) = 0 ∨ S (51 + b) = 1)
end
section
theorem bq_ixa {x y : Int32} {a b : Nat} (hx : x = nI a) (hy : y = nI b) : x + y = nI (a + b) := by rw [hx, hy, nI_add]
theorem bq_nb (P : Prop) [Decidable P] : narrow .boolean (.int (if P then 1 else 0)) = .int (if P then 1 else 0) := by split <;> rfl
section BqB
variable {cc : ByteArray} {own nm : String} {nL z : Nat} {Rm : Room} {A : bq_A} {cells slots pc q n : Nat} {ls : bq_LS} {st : List Value} {R : bq_RR} {I : bq_IR} {L : bq_LR}
theorem bq_ifb_eq (G : bq_Cx cc own nL z Rm nm A) {P : Prop} [Decidable P] {off : Int} {t : Nat} (hd : decode cc pc = .ok (.ifCond .eq off, 3)) (ht : (pc : Int) + off = (t : Int)) (hp : pc + 3 = q) (kt : ¬ P → A cells slots t ls st n R I L) (kf : P → A cells slots q ls st n R I L) : A cells slots pc ls (.int (if P then 1 else 0) :: st) n R I L := by
  refine bq_if_eq G hd ht hp (fun h => kt (fun hP => ?_)) (fun h => kf (Decidable.byContradiction fun hP => h (if_neg hP)))
  rw [if_pos hP] at h
  exact absurd h (by decide)
theorem bq_ifb_ne (G : bq_Cx cc own nL z Rm nm A) {P : Prop} [Decidable P] {off : Int} {t : Nat} (hd : decode cc pc = .ok (.ifCond .ne off, 3)) (ht : (pc : Int) + off = (t : Int)) (hp : pc + 3 = q) (kt : P → A cells slots t ls st n R I L) (kf : ¬ P → A cells slots q ls st n R I L) : A cells slots pc ls (.int (if P then 1 else 0) :: st) n R I L := by
  refine bq_if_ne G hd ht hp (fun h => kt (Decidable.byContradiction fun hP => h (if_neg hP))) (fun h => kf (fun hP => ?_))
  rw [if_pos hP] at h
  exact absurd h (by decide)
theorem bq_ri {mc ms : Nat} {r r' : Int32} {I' : bq_IR} {L' : bq_LR} (h : A mc ms pc ls [.int r] n R I L) (e1 : r' = r) (e2 : I' = I) (e3 : L' = L) : A mc ms pc ls [.int r'] n R I' L' := by subst e1 e2 e3; exact h
theorem bq_rl {mc ms : Nat} {r r' : Int64} {I' : bq_IR} {L' : bq_LR} (h : A mc ms pc ls [.long r] n R I L) (e1 : r' = r) (e2 : I' = I) (e3 : L' = L) : A mc ms pc ls [.long r'] n R I' L' := by subst e1 e2 e3; exact h
theorem bq_rv {mc ms : Nat} {R' : bq_RR} {I' : bq_IR} {L' : bq_LR} (h : A mc ms pc ls [] n R I L) (e1 : R' = R) (e2 : I' = I) (e3 : L' = L) : A mc ms pc ls [] n R' I' L' := by subst e1 e2 e3; exact h
end BqB
/-- down from N -/
theorem bq_down {P : Nat → Prop} (N : Nat) (h : ∀ k, k ≤ N → (k < N → P (k + 1)) → P k) : ∀ k, k ≤ N → P k := by
  intro k hk
  obtain ⟨d, hd⟩ : ∃ d, N = k + d := ⟨N - k, by omega⟩
  induction d generalizing k with
  | zero => exact h k hk (fun hlt => by omega)
  | succ d ih => exact h k hk (fun hlt => ih (k + 1) hlt (by omega))
set_option maxHeartbeats 4000000 in
set_option maxRecDepth 100000 in
theorem c_X8_bitOf {z n : Nat} {R : bq_RR} {I : bq_IR} {L : bq_LR} {x b : Int32}  : bq_FC MX8_bitOf z [.int x, .int b] n R I L 0 0 (some (.int (x >>> (b &&& 31) &&& 1))) n R (I) (L) := by
  refine bq_ofI [some (.int x), some (.int b)] rfl (Nat.le_of_ble_eq_true rfl) (by decide) rfl rfl ?_
  intro A G hret
  have G : bq_Cx cX8_bitOf RX8 2 z (bq_rm MX8_bitOf 0 0) "bitOf" A := G
  refine bq_iload_n (q := 1) G rfl dX8_bitOf_0 rfl ?_
  refine bq_iload_n (q := 2) G rfl dX8_bitOf_1 rfl ?_
  refine bq_ishr (q := 3) G dX8_bitOf_2 rfl ?_
  refine bq_iconst (q := 4) (v := 1) G (by decide) dX8_bitOf_3 rfl ?_
  refine bq_iand (q := 5) G dX8_bitOf_4 rfl ?_
  exact hret _ _ dX8_bitOf_5
set_option maxHeartbeats 4000000 in
set_option maxRecDepth 100000 in
theorem c_J9_max_7cf53 {z n : Nat} {R : bq_RR} {I : bq_IR} {L : bq_LR} {x y : Int32}  : bq_FC MJ9_max_7cf53 z [.int x, .int y] n R I L 0 0 (some (.int (if x < y then y else x))) n R (I) (L) := by
  refine bq_ofI [some (.int x), some (.int y)] rfl (Nat.le_of_ble_eq_true rfl) (by decide +kernel) rfl rfl ?_
  intro A G hret
  have G : bq_Cx cJ9_max_7cf53 RJ9 2 z (bq_rm MJ9_max_7cf53 0 0) "max" A := G
  refine bq_iload_n (q := 1) G rfl dJ9_max_7cf53_0 rfl ?_
  refine bq_iload_n (q := 2) G rfl dJ9_max_7cf53_1 rfl ?_
  refine bq_icmp_lt (t := 9) (q := 5) G dJ9_max_7cf53_2 (by decide) rfl (fun c2 => ?_) (fun c2 => ?_)
  · refine bq_iload_n (q := 10) G rfl dJ9_max_7cf53_9 rfl ?_
    exact bq_ri (hret _ _ dJ9_max_7cf53_10) (by simp [c2]) rfl rfl
  · refine bq_iload_n (q := 6) G rfl dJ9_max_7cf53_5 rfl ?_
    refine bq_goto (q := 10) G dJ9_max_7cf53_6 (by decide) ?_
    exact bq_ri (hret _ _ dJ9_max_7cf53_10) (by simp [c2]) rfl rfl
set_option maxHeartbeats 4000000 in
set_option maxRecDepth 100000 in
theorem c_J9_min_7cf53 {z n : Nat} {R : bq_RR} {I : bq_IR} {L : bq_LR} {x y : Int32}  : bq_FC MJ9_min_7cf53 z [.int x, .int y] n R I L 0 0 (some (.int (if y < x then y else x))) n R (I) (L) := by
  refine bq_ofI [some (.int x), some (.int y)] rfl (Nat.le_of_ble_eq_true rfl) (by decide +kernel) rfl rfl ?_
  intro A G hret
  have G : bq_Cx cJ9_min_7cf53 RJ9 2 z (bq_rm MJ9_min_7cf53 0 0) "min" A := G
  refine bq_iload_n (q := 1) G rfl dJ9_min_7cf53_0 rfl ?_
  refine bq_iload_n (q := 2) G rfl dJ9_min_7cf53_1 rfl ?_
  refine bq_icmp_gt (t := 9) (q := 5) G dJ9_min_7cf53_2 (by decide) rfl (fun c2 => ?_) (fun c2 => ?_)
  · refine bq_iload_n (q := 10) G rfl dJ9_min_7cf53_9 rfl ?_
    exact bq_ri (hret _ _ dJ9_min_7cf53_10) (by simp [c2]) rfl rfl
  · refine bq_iload_n (q := 6) G rfl dJ9_min_7cf53_5 rfl ?_
    refine bq_goto (q := 10) G dJ9_min_7cf53_6 (by decide) ?_
    exact bq_ri (hret _ _ dJ9_min_7cf53_10) (by simp [c2]) rfl rfl
set_option maxHeartbeats 4000000 in
set_option maxRecDepth 100000 in
theorem c_X9_in {z n : Nat} {R : bq_RR} {I : bq_IR} {L : bq_LR} {v a b : Int32}  : bq_FC MX9_in z [.int v, .int a, .int b] n R I L 0 0 (some (.int (if a ≤ v ∧ v ≤ b then 1 else 0))) n R (I) (L) := by
  refine bq_ofI [some (.int v), some (.int a), some (.int b)] rfl (Nat.le_of_ble_eq_true rfl) (by decide) rfl (by first | rfl | exact bq_nb _ | (split <;> rfl)) ?_
  intro A G hret
  have G : bq_Cx cX9_in RX9 3 z (bq_rm MX9_in 0 0) "in" A := G
  refine bq_iload_n (q := 1) G rfl dX9_in_0 rfl ?_
  refine bq_iload_n (q := 2) G rfl dX9_in_1 rfl ?_
  refine bq_icmp_lt (t := 14) (q := 5) G dX9_in_2 (by decide) rfl (fun c2 => ?_) (fun c2 => ?_)
  · refine bq_iconst (q := 15) (v := 0) G (by decide) dX9_in_14 rfl ?_
    exact bq_ri (hret _ _ dX9_in_15) (by simp only [Int32.lt_iff_toInt_lt, Int32.le_iff_toInt_le] at *; (repeat' split) <;> first | rfl | omega) rfl rfl
  · refine bq_iload_n (q := 6) G rfl dX9_in_5 rfl ?_
    refine bq_iload_n (q := 7) G rfl dX9_in_6 rfl ?_
    refine bq_icmp_gt (t := 14) (q := 10) G dX9_in_7 (by decide) rfl (fun c7 => ?_) (fun c7 => ?_)
    · refine bq_iconst (q := 15) (v := 0) G (by decide) dX9_in_14 rfl ?_
      exact bq_ri (hret _ _ dX9_in_15) (by simp only [Int32.lt_iff_toInt_lt, Int32.le_iff_toInt_le] at *; (repeat' split) <;> first | rfl | omega) rfl rfl
    · refine bq_iconst (q := 11) (v := 1) G (by decide) dX9_in_10 rfl ?_
      refine bq_goto (q := 15) G dX9_in_11 (by decide) ?_
      exact bq_ri (hret _ _ dX9_in_15) (by simp only [Int32.lt_iff_toInt_lt, Int32.le_iff_toInt_le] at *; (repeat' split) <;> first | rfl | omega) rfl rfl
set_option maxHeartbeats 4000000 in
set_option maxRecDepth 100000 in
theorem c_X9_isNumber {z n : Nat} {R : bq_RR} {I : bq_IR} {L : bq_LR} {b : Int32}  : bq_FC MX9_isNumber z [.int b] n R I L 0 0 (some (.int (if 0 ≤ b ∧ b ≤ 7 then 1 else 0))) n R (I) (L) := by
  refine bq_ofI [some (.int b)] rfl (Nat.le_of_ble_eq_true rfl) (by decide) rfl (by first | rfl | exact bq_nb _ | (split <;> rfl)) ?_
  intro A G hret
  have G : bq_Cx cX9_isNumber RX9 1 z (bq_rm MX9_isNumber 0 0) "isNumber" A := G
  refine bq_iload_n (q := 1) G rfl dX9_isNumber_0 rfl ?_
  refine bq_iconst (q := 2) (v := 0) G (by decide) dX9_isNumber_1 rfl ?_
  refine bq_bipush (q := 4) (v := 7) G (by decide) dX9_isNumber_2 rfl ?_
  refine bq_calls (q := 7) G dX9_isNumber_4 rfl cl_X9_45 (c_X9_in) rfl rfl ⟨Nat.le_of_ble_eq_true rfl, Nat.le_of_ble_eq_true rfl⟩ (Nat.le_of_ble_eq_true rfl) ⟨Nat.le_of_ble_eq_true rfl, Nat.le_of_ble_eq_true rfl⟩ rfl ?_
  exact hret _ _ dX9_isNumber_7
end
section
/-! a Moment's cells, and the row that they tell (all but minutes and peak) -/
def bq_Mo (z n : Nat) (R : bq_RR) (a : Nat) : Prop := bq_OB n a 5 ∧ bq_AR n (a + 1) 0 8 ∧ bq_AR n (a + 2) 0 8 ∧ bq_AR n (a + 3) 0 8 ∧ R a 3 = some (z + (a + 1)) ∧ R a 4 = some (z + (a + 2)) ∧ R a 5 = some (z + (a + 3))
def bq_MC (I : bq_IR) (a : Nat) (S : Nat → Int32) : Prop := I a 1 = S 1 ∧ (∀ b, b < 8 → I (a + 1) b = S (3 + b) ∧ I (a + 2) b = S (11 + b) ∧ I (a + 3) b = S (19 + b)) ∧ gs_F S 27 (I a 6) ∧ gs_F S 35 (I a 7) ∧ gs_F S 43 (I a 8) ∧ gs_F S 51 (I a 9)
theorem bq_srn1 {I : bq_IR} {a x j : Nat} {f : Nat → Int32} (h : x ≠ a) : bq_sr I a f x j = I x j := by rw [bq_sr_n h]
theorem bq_sru {I : bq_IR} {a j k : Nat} {v : Int32} : bq_sr I a (upd (I a) j v) a k = if k = j then v else I a k := by rw [bq_sr_s]; rfl
theorem bq_MC.water {I : bq_IR} {a : Nat} {S : Nat → Int32} (h : bq_MC I a S) (v : Int32) : bq_MC (bq_sr I a (upd (I a) 1 v)) a (upd S 1 v) := by
  obtain ⟨h1, h2, h3, h4, h5, h6⟩ := h
  refine ⟨by rw [bq_sru, pk_us, if_pos rfl], fun b hb => ?_, ?_, ?_, ?_, ?_⟩
  · rw [bq_srn1 (by omega), bq_srn1 (by omega), bq_srn1 (by omega), pk_un (by omega), pk_un (by omega), pk_un (by omega)]; exact h2 b hb
  · rw [bq_sru, if_neg (by decide)]; exact h3.oth (by omega)
  · rw [bq_sru, if_neg (by decide)]; exact h4.oth (by omega)
  · rw [bq_sru, if_neg (by decide)]; exact h5.oth (by omega)
  · rw [bq_sru, if_neg (by decide)]; exact h6.oth (by omega)
theorem bq_MC.oth {I : bq_IR} {a : Nat} {S : Nat → Int32} (h : bq_MC I a S) (j : Nat) (v : Int32) (hj : j = 0 ∨ j = 2 ∨ 10 ≤ j) : bq_MC (bq_sr I a (upd (I a) j v)) a S := by
  obtain ⟨h1, h2, h3, h4, h5, h6⟩ := h
  refine ⟨by rw [bq_sru, if_neg (by omega)]; exact h1, fun b hb => ?_, ?_, ?_, ?_, ?_⟩
  · rw [bq_srn1 (by omega), bq_srn1 (by omega), bq_srn1 (by omega)]; exact h2 b hb
  · rw [bq_sru, if_neg (by omega)]; exact h3
  · rw [bq_sru, if_neg (by omega)]; exact h4
  · rw [bq_sru, if_neg (by omega)]; exact h5
  · rw [bq_sru, if_neg (by omega)]; exact h6
theorem bq_MC.out {I : bq_IR} {a : Nat} {S S' : Nat → Int32} {w : Int32} (h : bq_MC I a S) (hw : gs_F S' 27 w) (hS : ∀ j, j < 27 ∨ 35 ≤ j → S' j = S j) : bq_MC (bq_sr I a (upd (I a) 6 w)) a S' := by
  obtain ⟨h1, h2, h3, h4, h5, h6⟩ := h
  refine ⟨by rw [bq_sru, if_neg (by decide), hS 1 (by omega)]; exact h1, fun b hb => ?_, ?_, ?_, ?_, ?_⟩
  · rw [bq_srn1 (by omega), bq_srn1 (by omega), bq_srn1 (by omega), hS _ (by omega), hS _ (by omega), hS _ (by omega)]; exact h2 b hb
  · rw [bq_sru, if_pos rfl]; exact hw
  · rw [bq_sru, if_neg (by decide)]; exact h4.congr (fun j hj => hS _ (by omega))
  · rw [bq_sru, if_neg (by decide)]; exact h5.congr (fun j hj => hS _ (by omega))
  · rw [bq_sru, if_neg (by decide)]; exact h6.congr (fun j hj => hS _ (by omega))
theorem bq_MC.bored {I : bq_IR} {a : Nat} {S S' : Nat → Int32} {w : Int32} (h : bq_MC I a S) (hw : gs_F S' 35 w) (hS : ∀ j, j < 35 ∨ 43 ≤ j → S' j = S j) : bq_MC (bq_sr I a (upd (I a) 7 w)) a S' := by
  obtain ⟨h1, h2, h3, h4, h5, h6⟩ := h
  refine ⟨by rw [bq_sru, if_neg (by decide), hS 1 (by omega)]; exact h1, fun b hb => ?_, ?_, ?_, ?_, ?_⟩
  · rw [bq_srn1 (by omega), bq_srn1 (by omega), bq_srn1 (by omega), hS _ (by omega), hS _ (by omega), hS _ (by omega)]; exact h2 b hb
  · rw [bq_sru, if_neg (by decide)]; exact h3.congr (fun j hj => hS _ (by omega))
  · rw [bq_sru, if_pos rfl]; exact hw
  · rw [bq_sru, if_neg (by decide)]; exact h5.congr (fun j hj => hS _ (by omega))
  · rw [bq_sru, if_neg (by decide)]; exact h6.congr (fun j hj => hS _ (by omega))
theorem bq_MC.wet {I : bq_IR} {a : Nat} {S S' : Nat → Int32} {w : Int32} (h : bq_MC I a S) (hw : gs_F S' 43 w) (hS : ∀ j, j < 43 ∨ 51 ≤ j → S' j = S j) : bq_MC (bq_sr I a (upd (I a) 8 w)) a S' := by
  obtain ⟨h1, h2, h3, h4, h5, h6⟩ := h
  refine ⟨by rw [bq_sru, if_neg (by decide), hS 1 (by omega)]; exact h1, fun b hb => ?_, ?_, ?_, ?_, ?_⟩
  · rw [bq_srn1 (by omega), bq_srn1 (by omega), bq_srn1 (by omega), hS _ (by omega), hS _ (by omega), hS _ (by omega)]; exact h2 b hb
  · rw [bq_sru, if_neg (by decide)]; exact h3.congr (fun j hj => hS _ (by omega))
  · rw [bq_sru, if_neg (by decide)]; exact h4.congr (fun j hj => hS _ (by omega))
  · rw [bq_sru, if_pos rfl]; exact hw
  · rw [bq_sru, if_neg (by decide)]; exact h6.congr (fun j hj => hS _ (by omega))
theorem bq_MC.there {I : bq_IR} {a : Nat} {S S' : Nat → Int32} {w : Int32} (h : bq_MC I a S) (hw : gs_F S' 51 w) (hS : ∀ j, j < 51 ∨ 59 ≤ j → S' j = S j) : bq_MC (bq_sr I a (upd (I a) 9 w)) a S' := by
  obtain ⟨h1, h2, h3, h4, h5, h6⟩ := h
  refine ⟨by rw [bq_sru, if_neg (by decide), hS 1 (by omega)]; exact h1, fun b hb => ?_, ?_, ?_, ?_, ?_⟩
  · rw [bq_srn1 (by omega), bq_srn1 (by omega), bq_srn1 (by omega), hS _ (by omega), hS _ (by omega), hS _ (by omega)]; exact h2 b hb
  · rw [bq_sru, if_neg (by decide)]; exact h3.congr (fun j hj => hS _ (by omega))
  · rw [bq_sru, if_neg (by decide)]; exact h4.congr (fun j hj => hS _ (by omega))
  · rw [bq_sru, if_neg (by decide)]; exact h5.congr (fun j hj => hS _ (by omega))
  · rw [bq_sru, if_pos rfl]; exact hw
theorem bq_MC.arr {I : bq_IR} {a : Nat} {S : Nat → Int32} (h : bq_MC I a S) {i k : Nat} (hi : i < 3) (hk : k < 8) (v : Int32) : bq_MC (bq_sr I (a + 1 + i) (upd (I (a + 1 + i)) k v)) a (upd S (3 + 8 * i + k) v) := by
  obtain ⟨h1, h2, h3, h4, h5, h6⟩ := h
  refine ⟨by rw [bq_srn1 (by omega), pk_un (by omega)]; exact h1, fun b hb => ?_, ?_, ?_, ?_, ?_⟩
  · obtain ⟨g1, g2, g3⟩ := h2 b hb
    rcases (show i = 0 ∨ i = 1 ∨ i = 2 by omega) with rfl | rfl | rfl
    · refine ⟨?_, by rw [bq_srn1 (by omega), pk_un (by omega)]; exact g2, by rw [bq_srn1 (by omega), pk_un (by omega)]; exact g3⟩
      show bq_sr I (a + 1) (upd (I (a + 1)) k v) (a + 1) b = upd S (3 + k) v (3 + b)
      rw [bq_sru]; unfold upd
      by_cases e : b = k
      · rw [if_pos e, if_pos (by omega)]
      · rw [if_neg e, if_neg (by omega)]; exact g1
    · refine ⟨by rw [bq_srn1 (by omega), pk_un (by omega)]; exact g1, ?_, by rw [bq_srn1 (by omega), pk_un (by omega)]; exact g3⟩
      show bq_sr I (a + 2) (upd (I (a + 2)) k v) (a + 2) b = upd S (11 + k) v (11 + b)
      rw [bq_sru]; unfold upd
      by_cases e : b = k
      · rw [if_pos e, if_pos (by omega)]
      · rw [if_neg e, if_neg (by omega)]; exact g2
    · refine ⟨by rw [bq_srn1 (by omega), pk_un (by omega)]; exact g1, by rw [bq_srn1 (by omega), pk_un (by omega)]; exact g2, ?_⟩
      show bq_sr I (a + 3) (upd (I (a + 3)) k v) (a + 3) b = upd S (19 + k) v (19 + b)
      rw [bq_sru]; unfold upd
      by_cases e : b = k
      · rw [if_pos e, if_pos (by omega)]
      · rw [if_neg e, if_neg (by omega)]; exact g3
  · rw [bq_srn1 (by omega)]; exact h3.oth (by omega)
  · rw [bq_srn1 (by omega)]; exact h4.oth (by omega)
  · rw [bq_srn1 (by omega)]; exact h5.oth (by omega)
  · rw [bq_srn1 (by omega)]; exact h6.oth (by omega)
theorem bq_MC.size {I : bq_IR} {a : Nat} {S : Nat → Int32} (h : bq_MC I a S) {k : Nat} (hk : k < 8) (v : Int32) : bq_MC (bq_sr I (a + 1) (upd (I (a + 1)) k v)) a (upd S (3 + k) v) := h.arr (i := 0) (by decide) hk v
theorem bq_MC.pace {I : bq_IR} {a : Nat} {S : Nat → Int32} (h : bq_MC I a S) {k : Nat} (hk : k < 8) (v : Int32) : bq_MC (bq_sr I (a + 2) (upd (I (a + 2)) k v)) a (upd S (11 + k) v) := h.arr (i := 1) (by decide) hk v
theorem bq_MC.due {I : bq_IR} {a : Nat} {S : Nat → Int32} (h : bq_MC I a S) {k : Nat} (hk : k < 8) (v : Int32) : bq_MC (bq_sr I (a + 3) (upd (I (a + 3)) k v)) a (upd S (19 + k) v) := h.arr (i := 2) (by decide) hk v
theorem bq_MC.same {I I' : bq_IR} {a : Nat} {S : Nat → Int32} (h : bq_MC I a S) (h0 : I' a = I a) (h1 : I' (a + 1) = I (a + 1)) (h2 : I' (a + 2) = I (a + 2)) (h3 : I' (a + 3) = I (a + 3)) : bq_MC I' a S := by
  unfold bq_MC at h ⊢; rw [h0, h1, h2, h3]; exact h
theorem bq_MC.row {I : bq_IR} {a : Nat} {S S' : Nat → Int32} (h : bq_MC I a S) (hS : ∀ j, j < 59 → j ≠ 0 → j ≠ 2 → S' j = S j) : bq_MC I a S' := by
  obtain ⟨h1, h2, h3, h4, h5, h6⟩ := h
  refine ⟨by rw [hS 1 (by omega) (by omega) (by omega)]; exact h1, fun b hb => ?_, h3.congr (fun j hj => hS _ (by omega) (by omega) (by omega)), h4.congr (fun j hj => hS _ (by omega) (by omega) (by omega)), h5.congr (fun j hj => hS _ (by omega) (by omega) (by omega)), h6.congr (fun j hj => hS _ (by omega) (by omega) (by omega))⟩
  rw [hS _ (by omega) (by omega) (by omega), hS _ (by omega) (by omega) (by omega), hS _ (by omega) (by omega) (by omega)]; exact h2 b hb
/-! arithmetic of the water -/
theorem gs_toInt_add {x y : Int32} (h1 : -1000000 ≤ x.toInt) (h2 : x.toInt ≤ 1000000) (h3 : -1000000 ≤ y.toInt) (h4 : y.toInt ≤ 1000000) : (x + y).toInt = x.toInt + y.toInt := by
  rw [Int32.toInt_add]; rw [Int.bmod_eq_of_le] <;> omega
theorem gs_toInt_sub {x y : Int32} (h1 : -1000000 ≤ x.toInt) (h2 : x.toInt ≤ 1000000) (h3 : -1000000 ≤ y.toInt) (h4 : y.toInt ≤ 1000000) : (x - y).toInt = x.toInt - y.toInt := by
  rw [Int32.toInt_sub]; rw [Int.bmod_eq_of_le] <;> omega
theorem gs_toInt_neg {y : Int32} (h3 : -1000000 ≤ y.toInt) (h4 : y.toInt ≤ 1000000) : (-y).toInt = -y.toInt := by
  rw [Int32.toInt_neg]; rw [Int.bmod_eq_of_le] <;> omega
theorem gs_half {x : Int32} (h1 : 0 ≤ x) (h2 : x ≤ 64) : 0 ≤ (x / 2).toInt ∧ (x / 2).toInt ≤ 32 ∧ (x / 2).toInt = x.toInt / 2 := by
  rw [Int32.le_iff_toInt_le] at h1 h2
  have e0 : (0 : Int32).toInt = 0 := rfl
  have e64 : (64 : Int32).toInt = 64 := rfl
  have e2 : (2 : Int32).toInt = 2 := rfl
  rw [e0] at h1; rw [e64] at h2
  have : (x / 2).toInt = x.toInt / 2 := by
    rw [Int32.toInt_div, e2, Int.tdiv_eq_ediv_of_nonneg h1]
    rw [Int.bmod_eq_of_le] <;> omega
  rw [this]; omega
theorem gs_ld_in {S : Nat → Int32} {b : Nat} (h : 0 ≤ S (3 + b) ∧ S (3 + b) ≤ 64) : 0 ≤ (gs_ld S b).toInt ∧ (gs_ld S b).toInt ≤ 64 := by
  unfold gs_ld
  split
  · have := gs_half h.1 h.2; omega
  · have e0 : (0 : Int32).toInt = 0 := rfl
    have e64 : (64 : Int32).toInt = 64 := rfl
    simp only [Int32.le_iff_toInt_le, e0, e64] at h
    exact h
theorem gs_out {w l : Int32} (hw : 0 ≤ w ∧ w ≤ 99999) (hl : 0 ≤ l.toInt ∧ l.toInt ≤ 64) : (if 0 < w - l then w - l else 0) = gs_cl (w + -l) := by
  have e0 : (0 : Int32).toInt = 0 := rfl
  have e9 : (99999 : Int32).toInt = 99999 := rfl
  simp only [Int32.le_iff_toInt_le, e0, e9] at hw
  have hn := gs_toInt_neg (y := l) (by omega) (by omega)
  have hs : (w - l).toInt = w.toInt - l.toInt := gs_toInt_sub (by omega) (by omega) (by omega) (by omega)
  have ha : (w + -l).toInt = w.toInt - l.toInt := by rw [gs_toInt_add (by omega) (by omega) (by omega) (by omega), hn]; omega
  have he : w + -l = w - l := Int32.toInt_inj.mp (by rw [ha, hs])
  unfold gs_cl
  rw [he]
  simp only [Int32.lt_iff_toInt_lt, e0, e9, hs]
  by_cases h : 0 < w.toInt - l.toInt
  · rw [if_pos h, if_neg (by omega), if_neg (by omega)]
  · rw [if_neg h]
    by_cases h2 : w.toInt - l.toInt < 0
    · rw [if_pos h2]
    · rw [if_neg h2, if_neg (by omega)]
      exact Int32.toInt_inj.mp (by rw [hs, e0]; omega)
theorem gs_in {w l : Int32} (hw : 0 ≤ w ∧ w ≤ 99999) (hl : 0 ≤ l.toInt ∧ l.toInt ≤ 64) : (if w + l < 99999 then w + l else 99999) = gs_cl (w + l) := by
  have e0 : (0 : Int32).toInt = 0 := rfl
  have e9 : (99999 : Int32).toInt = 99999 := rfl
  simp only [Int32.le_iff_toInt_le, e0, e9] at hw
  have ha : (w + l).toInt = w.toInt + l.toInt := gs_toInt_add (by omega) (by omega) (by omega) (by omega)
  unfold gs_cl
  simp only [Int32.lt_iff_toInt_lt, e0, e9, ha]
  by_cases h : w.toInt + l.toInt < 99999
  · rw [if_pos h, if_neg (by omega), if_neg (by omega)]
  · rw [if_neg h, if_neg (by omega)]
    by_cases h2 : 99999 < w.toInt + l.toInt
    · rw [if_pos h2]
    · rw [if_neg h2]
      exact Int32.toInt_inj.mp (by rw [ha, e9]; omega)
theorem gs_cl_in (v : Int32) : 0 ≤ gs_cl v ∧ gs_cl v ≤ 99999 := by
  unfold gs_cl
  split
  · decide
  · split
    · decide
    · rename_i h1 h2
      exact ⟨Int32.not_lt.mp h1, Int32.not_lt.mp h2⟩
end
section
set_option maxHeartbeats 1000000 in
set_option maxRecDepth 100000 in
theorem c_X5_isThere {z n : Nat} {R : bq_RR} {I : bq_IR} {L : bq_LR} {a : Nat} {b : Int32} (hM0 : bq_OB n a 5) : bq_FC MX5_isThere z [.ref (z + a), .int b] n R I L 0 0 (some (.int (if 0 ≤ b ∧ b < 8 ∧ I a 9 >>> (b &&& 31) &&& 1 = 1 then 1 else 0))) n R (I) (L) := by
  refine bq_ofI [some (.ref (z + a)), some (.int b)] rfl (Nat.le_of_ble_eq_true rfl) (by decide) rfl (by first | rfl | exact bq_nb _ | (split <;> rfl)) ?_
  intro A G hret
  have G : bq_Cx cX5_isThere RX5 2 z (bq_rm MX5_isThere 0 0) "isThere" A := G
  refine bq_iload_n (q := 1) G rfl dX5_isThere_0 rfl ?_
  refine bq_if_lt (t := 26) (q := 4) G dX5_isThere_1 (by decide) rfl (fun c1 => ?_) (fun c1 => ?_)
  · refine bq_iconst (q := 27) (v := 0) G (by decide) dX5_isThere_26 rfl ?_
    exact bq_ri (hret _ _ dX5_isThere_27) (by first | (rw [if_pos ⟨by simpa [Int32.not_lt] using c1, by simpa [Int32.not_le] using c7, by simpa using c19⟩]; done) | (rw [if_neg (fun h => by first | exact c19 h.2.2 | exact Int32.not_lt.mpr h.1 c1 | exact Int32.not_lt.mpr c7 h.2.1)]; done)) rfl rfl
  · refine bq_iload_n (q := 5) G rfl dX5_isThere_4 rfl ?_
    refine bq_bipush (q := 7) (v := 8) G (by decide) dX5_isThere_5 rfl ?_
    refine bq_icmp_ge (t := 26) (q := 10) G dX5_isThere_7 (by decide) rfl (fun c7 => ?_) (fun c7 => ?_)
    · refine bq_iconst (q := 27) (v := 0) G (by decide) dX5_isThere_26 rfl ?_
      exact bq_ri (hret _ _ dX5_isThere_27) (by first | (rw [if_pos ⟨by simpa [Int32.not_lt] using c1, by simpa [Int32.not_le] using c7, by simpa using c19⟩]; done) | (rw [if_neg (fun h => by first | exact c19 h.2.2 | exact Int32.not_lt.mpr h.1 c1 | exact Int32.not_lt.mpr c7 h.2.1)]; done)) rfl rfl
    · refine bq_aload_n (q := 11) G rfl dX5_isThere_10 rfl ?_
      refine bq_geti (q := 14) G dX5_isThere_11 rfl fl_X5_40 (by first | assumption | exact ⟨Nat.le_of_ble_eq_true rfl, rfl⟩) rfl ?_
      refine bq_iload_n (q := 15) G rfl dX5_isThere_14 rfl ?_
      refine bq_callsN (q := 18) G dX5_isThere_15 rfl (by first | exact Or.inl ⟨rfl, rfl⟩ | exact Or.inr ⟨rfl, rfl⟩) (c_X8_bitOf) rfl rfl ⟨Nat.le_of_ble_eq_true rfl, Nat.le_of_ble_eq_true rfl⟩ (Nat.le_of_ble_eq_true rfl) ⟨Nat.le_of_ble_eq_true rfl, Nat.le_of_ble_eq_true rfl⟩ rfl ?_
      refine bq_iconst (q := 19) (v := 1) G (by decide) dX5_isThere_18 rfl ?_
      refine bq_icmp_ne (t := 26) (q := 22) G dX5_isThere_19 (by decide) rfl (fun c19 => ?_) (fun c19 => ?_)
      · refine bq_iconst (q := 27) (v := 0) G (by decide) dX5_isThere_26 rfl ?_
        exact bq_ri (hret _ _ dX5_isThere_27) (by first | (rw [if_pos ⟨by simpa [Int32.not_lt] using c1, by simpa [Int32.not_le] using c7, by simpa using c19⟩]; done) | (rw [if_neg (fun h => by first | exact c19 h.2.2 | exact Int32.not_lt.mpr h.1 c1 | exact Int32.not_lt.mpr c7 h.2.1)]; done)) rfl rfl
      · refine bq_iconst (q := 23) (v := 1) G (by decide) dX5_isThere_22 rfl ?_
        refine bq_goto (q := 27) G dX5_isThere_23 (by decide) ?_
        exact bq_ri (hret _ _ dX5_isThere_27) (by first | (rw [if_pos ⟨by simpa [Int32.not_lt] using c1, by simpa [Int32.not_le] using c7, by simpa using c19⟩]; done) | (rw [if_neg (fun h => by first | exact c19 h.2.2 | exact Int32.not_lt.mpr h.1 c1 | exact Int32.not_lt.mpr c7 h.2.1)]; done)) rfl rfl
theorem bq_bits {I : bq_IR} {a k : Nat} {S : Nat → Int32} (hk : k < 8) (hF : gs_F S 51 (I a 9)) : (0 ≤ nI k ∧ nI k < 8 ∧ I a 9 >>> (nI k &&& 31) &&& 1 = 1) ↔ S (51 + k) = 1 := by
  rw [hF.get hk]
  exact ⟨fun h => h.2.2, fun h => ⟨nI_pos' (by omega), nI_lt (b := 8) hk (by decide), h⟩⟩
theorem c_isThere {z n : Nat} {R : bq_RR} {I : bq_IR} {L : bq_LR} {a k : Nat} {S : Nat → Int32} (hM0 : bq_OB n a 5) (hk : k < 8) (hF : gs_F S 51 (I a 9)) : bq_FC MX5_isThere z [.ref (z + a), .int (nI k)] n R I L 0 0 (some (.int (if S (51 + k) = 1 then 1 else 0))) n R I L := by
  have h := c_X5_isThere (z := z) (R := R) (I := I) (L := L) (b := nI k) hM0
  simp only [bq_bits hk hF] at h
  exact h
set_option maxHeartbeats 1000000 in
set_option maxRecDepth 100000 in
theorem c_X5_loadOf {z n : Nat} {R : bq_RR} {I : bq_IR} {L : bq_LR} {a : Nat} {k : Nat} {S : Nat → Int32} (hM : bq_Mo z n R a) (hC : bq_MC I a S) (hk : k < 8) : bq_FC MX5_loadOf z [.ref (z + a), .int (nI k)] n R I L 0 0 (some (.int (gs_ld S k))) n R (I) (L) := by
  refine bq_ofI [some (.ref (z + a)), some (.int (nI k))] rfl (Nat.le_of_ble_eq_true rfl) (by decide) rfl rfl ?_
  intro A G hret
  have G : bq_Cx cX5_loadOf RX5 2 z (bq_rm MX5_loadOf 0 0) "loadOf" A := G
  obtain ⟨hM0, hM1, hM2, hM3, hR3, hR4, hR5⟩ := id hM
  have e3 := (hC.2.1 k hk).1
  have e4 := hC.2.2.2.1.get hk
  refine bq_iload_n (q := 1) G rfl dX5_loadOf_0 rfl ?_
  refine bq_if_lt_f (q := 4) (t := 10) G dX5_loadOf_1 rfl (by decide) (nI_pos (by omega)) ?_
  refine bq_iload_n (q := 5) G rfl dX5_loadOf_4 rfl ?_
  refine bq_bipush (q := 7) (v := 8) G (by decide) dX5_loadOf_5 rfl ?_
  refine bq_icmp_lt_t (t := 12) G dX5_loadOf_7 (by decide) (nI_lt (b := 8) hk (by decide)) ?_
  refine bq_aload_n (q := 13) G rfl dX5_loadOf_12 rfl ?_
  refine bq_geti (q := 16) G dX5_loadOf_13 rfl fl_X5_34 (by first | assumption | exact ⟨Nat.le_of_ble_eq_true rfl, rfl⟩) rfl ?_
  refine bq_iload_n (q := 17) G rfl dX5_loadOf_16 rfl ?_
  refine bq_ishr (q := 18) G dX5_loadOf_17 rfl ?_
  refine bq_iconst (q := 19) (v := 1) G (by decide) dX5_loadOf_18 rfl ?_
  refine bq_iand (q := 20) G dX5_loadOf_19 rfl ?_
  refine bq_iconst (q := 21) (v := 1) G (by decide) dX5_loadOf_20 rfl ?_
  refine bq_icmp_ne (t := 35) (q := 24) G dX5_loadOf_21 (by decide) rfl (fun c21 => ?_) (fun c21 => ?_)
  · refine bq_aload_n (q := 36) G rfl dX5_loadOf_35 rfl ?_
    refine bq_getr (q := 39) G dX5_loadOf_36 rfl fl_X5_9 (by first | assumption | exact ⟨Nat.le_of_ble_eq_true rfl, rfl⟩) (fun _ _ _ => rfl) (by first | assumption | rfl) ?_
    refine bq_iload_n (q := 40) G rfl dX5_loadOf_39 rfl ?_
    refine bq_iald (q := 41) G dX5_loadOf_40 rfl (by first | assumption | exact ⟨Nat.le_of_ble_eq_true rfl, rfl⟩) (by first | with_reducible assumption | exact rfl | exact bq_ixa rfl (by with_reducible assumption) | exact bq_ixa rfl rfl | exact bq_ixa (by with_reducible assumption) rfl | exact bq_ixa rfl (bq_ixa (by first | rfl | with_reducible assumption) (by first | rfl | with_reducible assumption))) (by first | with_reducible assumption | omega | decide) (by decide) ?_
    exact bq_ri (hret _ _ dX5_loadOf_41) (by unfold gs_ld; rw [e4] at c21; rw [if_neg c21, e3]) rfl rfl
  · refine bq_aload_n (q := 25) G rfl dX5_loadOf_24 rfl ?_
    refine bq_getr (q := 28) G dX5_loadOf_25 rfl fl_X5_9 (by first | assumption | exact ⟨Nat.le_of_ble_eq_true rfl, rfl⟩) (fun _ _ _ => rfl) (by first | assumption | rfl) ?_
    refine bq_iload_n (q := 29) G rfl dX5_loadOf_28 rfl ?_
    refine bq_iald (q := 30) G dX5_loadOf_29 rfl (by first | assumption | exact ⟨Nat.le_of_ble_eq_true rfl, rfl⟩) (by first | with_reducible assumption | exact rfl | exact bq_ixa rfl (by with_reducible assumption) | exact bq_ixa rfl rfl | exact bq_ixa (by with_reducible assumption) rfl | exact bq_ixa rfl (bq_ixa (by first | rfl | with_reducible assumption) (by first | rfl | with_reducible assumption))) (by first | with_reducible assumption | omega | decide) (by decide) ?_
    refine bq_iconst (q := 31) (v := 2) G (by decide) dX5_loadOf_30 rfl ?_
    refine bq_idiv (q := 32) G (by decide) dX5_loadOf_31 rfl ?_
    refine bq_goto (q := 41) G dX5_loadOf_32 (by decide) ?_
    exact bq_ri (hret _ _ dX5_loadOf_41) (by unfold gs_ld; rw [e4] at c21; rw [if_pos c21, e3]) rfl rfl
set_option maxHeartbeats 1000000 in
set_option maxRecDepth 100000 in
theorem c_X5_comes {z n : Nat} {R : bq_RR} {I : bq_IR} {L : bq_LR} {a : Nat} {k : Nat} {S : Nat → Int32} (hM : bq_Mo z n R a) (hC : bq_MC I a S) (hk : k < 8) (hw : 0 ≤ S 1 ∧ S 1 ≤ 99999) (hs : 0 ≤ S (3 + k) ∧ S (3 + k) ≤ 64) : bq_FV MX5_comes z [.ref (z + a), .int (nI k)] n R I L (fun J L' => (bq_MC J a (gs_2 k S) ∧ J a 0 = I a 0 ∧ J a 2 = I a 2 ∧ J a 10 = I a 10 ||| (1 <<< (nI k &&& 31)) ∧ J a 11 = I a 11) ∧ (∀ x, (x < a ∨ a + 3 < x) → J x = I x) ∧ L' = L) := by
  refine bq_FVof [some (.ref (z + a)), some (.int (nI k))] rfl (Nat.le_of_ble_eq_true rfl) (by decide) rfl ?_
  intro A G hret
  have G : bq_Cx cX5_comes RX5 2 z (bq_rm MX5_comes 0 0) "comes" A := G
  obtain ⟨hM0, hM1, hM2, hM3, hR3, hR4, hR5⟩ := id hM
  have e4 := hC.2.2.1.get hk
  have hld := gs_ld_in hs
  
  have tail : ∀ (v : Int32), v = gs_wa k S → A 0 0 63 [some (.ref (z + a)), some (.int (nI k))] [] n R (bq_sr I a (upd (I a) 1 v)) L := by
    intro v hv
    refine bq_aload_n (q := 64) G rfl dX5_comes_63 rfl ?_
    refine bq_getr (q := 67) G dX5_comes_64 rfl fl_X5_18 (by first | assumption | exact ⟨Nat.le_of_ble_eq_true rfl, rfl⟩) (fun _ _ _ => rfl) (by first | assumption | rfl) ?_
    refine bq_iload_n (q := 68) G rfl dX5_comes_67 rfl ?_
    refine bq_aload_n (q := 69) G rfl dX5_comes_68 rfl ?_
    refine bq_getr (q := 72) G dX5_comes_69 rfl fl_X5_15 (by first | assumption | exact ⟨Nat.le_of_ble_eq_true rfl, rfl⟩) (fun _ _ _ => rfl) (by first | assumption | rfl) ?_
    refine bq_iload_n (q := 73) G rfl dX5_comes_72 rfl ?_
    refine bq_iald (q := 74) G dX5_comes_73 rfl (by first | assumption | exact ⟨Nat.le_of_ble_eq_true rfl, rfl⟩) (by first | with_reducible assumption | exact rfl | exact bq_ixa rfl (by with_reducible assumption) | exact bq_ixa rfl rfl | exact bq_ixa (by with_reducible assumption) rfl | exact bq_ixa rfl (bq_ixa (by first | rfl | with_reducible assumption) (by first | rfl | with_reducible assumption))) (by first | with_reducible assumption | omega | decide) (by decide) ?_
    refine bq_iast (q := 75) G dX5_comes_74 rfl (by first | assumption | exact ⟨Nat.le_of_ble_eq_true rfl, rfl⟩) (by first | with_reducible assumption | exact rfl | exact bq_ixa rfl (by with_reducible assumption) | exact bq_ixa rfl rfl | exact bq_ixa (by with_reducible assumption) rfl | exact bq_ixa rfl (bq_ixa (by first | rfl | with_reducible assumption) (by first | rfl | with_reducible assumption))) (by first | with_reducible assumption | omega | decide) (by decide) ?_
    refine bq_aload_n (q := 76) G rfl dX5_comes_75 rfl ?_
    refine bq_dup (q := 77) G rfl dX5_comes_76 rfl ?_
    refine bq_geti (q := 80) G dX5_comes_77 rfl fl_X5_37 (by first | assumption | exact ⟨Nat.le_of_ble_eq_true rfl, rfl⟩) rfl ?_
    refine bq_iconst (q := 81) (v := 1) G (by decide) dX5_comes_80 rfl ?_
    refine bq_iload_n (q := 82) G rfl dX5_comes_81 rfl ?_
    refine bq_ishl (q := 83) G dX5_comes_82 rfl ?_
    refine bq_ior (q := 84) G dX5_comes_83 rfl ?_
    refine bq_puti (q := 87) G dX5_comes_84 rfl fl_X5_37 (by first | assumption | exact ⟨Nat.le_of_ble_eq_true rfl, rfl⟩) rfl rfl ?_
    refine bq_aload_n (q := 88) G rfl dX5_comes_87 rfl ?_
    refine bq_dup (q := 89) G rfl dX5_comes_88 rfl ?_
    refine bq_geti (q := 92) G dX5_comes_89 rfl fl_X5_47 (by first | assumption | exact ⟨Nat.le_of_ble_eq_true rfl, rfl⟩) rfl ?_
    refine bq_iconst (q := 93) (v := 1) G (by decide) dX5_comes_92 rfl ?_
    refine bq_iload_n (q := 94) G rfl dX5_comes_93 rfl ?_
    refine bq_ishl (q := 95) G dX5_comes_94 rfl ?_
    refine bq_ior (q := 96) G dX5_comes_95 rfl ?_
    refine bq_puti (q := 99) G dX5_comes_96 rfl fl_X5_47 (by first | assumption | exact ⟨Nat.le_of_ble_eq_true rfl, rfl⟩) rfl rfl ?_
    refine hret _ _ _ _ dX5_comes_99 ⟨⟨?_, ?_, ?_, ?_, ?_⟩, ?_, rfl⟩
    · have m1 := hC.water v
      have ep := (m1.2.1 k hk).2.1
      have m2 := m1.due hk (bq_sr I a (upd (I a) 1 v) (a + 2) k)
      have m3 := m2.wet (m2.2.2.2.2.1.set1 hk) (fun j hj => pk_un (by omega))
      have e2 : upd (upd (upd S 1 v) (19 + k) (bq_sr I a (upd (I a) 1 v) (a + 2) k)) (43 + k) 1 = gs_2 k S := by rw [ep, pk_un (by omega), hv]; rfl
      rw [← e2]
      exact m3.oth 10 _ (by omega)
    · simp [bq_sr, upd]
    · simp [bq_sr, upd]
    · simp [bq_sr, upd]
    · simp [bq_sr, upd]
    · intro x hx
      simp only [bq_sr]
      (repeat' split) <;> first | rfl | omega
  refine bq_iload_n (q := 1) G rfl dX5_comes_0 rfl ?_
  refine bq_if_lt_f (q := 4) (t := 10) G dX5_comes_1 rfl (by decide) (nI_pos (by omega)) ?_
  refine bq_iload_n (q := 5) G rfl dX5_comes_4 rfl ?_
  refine bq_bipush (q := 7) (v := 8) G (by decide) dX5_comes_5 rfl ?_
  refine bq_icmp_lt_t (t := 11) G dX5_comes_7 (by decide) (nI_lt (b := 8) hk (by decide)) ?_
  refine bq_aload_n (q := 12) G rfl dX5_comes_11 rfl ?_
  refine bq_geti (q := 15) G dX5_comes_12 rfl fl_X5_31 (by first | assumption | exact ⟨Nat.le_of_ble_eq_true rfl, rfl⟩) rfl ?_
  refine bq_iload_n (q := 16) G rfl dX5_comes_15 rfl ?_
  refine bq_callsN (q := 19) G dX5_comes_16 rfl (by first | exact Or.inl ⟨rfl, rfl⟩ | exact Or.inr ⟨rfl, rfl⟩) (c_X8_bitOf) rfl rfl ⟨Nat.le_of_ble_eq_true rfl, Nat.le_of_ble_eq_true rfl⟩ (Nat.le_of_ble_eq_true rfl) ⟨Nat.le_of_ble_eq_true rfl, Nat.le_of_ble_eq_true rfl⟩ rfl ?_
  refine bq_iconst (q := 20) (v := 1) G (by decide) dX5_comes_19 rfl ?_
  refine bq_icmp_ne (t := 44) (q := 23) G dX5_comes_20 (by decide) rfl (fun c20 => ?_) (fun c20 => ?_)
  · refine bq_aload_n (q := 45) G rfl dX5_comes_44 rfl ?_
    refine bq_ldc (q := 47) G wk_X5_73 dX5_comes_45 rfl ?_
    refine bq_aload_n (q := 48) G rfl dX5_comes_47 rfl ?_
    refine bq_geti (q := 51) G dX5_comes_48 rfl fl_X5_25 (by first | assumption | exact ⟨Nat.le_of_ble_eq_true rfl, rfl⟩) rfl ?_
    refine bq_aload_n (q := 52) G rfl dX5_comes_51 rfl ?_
    refine bq_iload_n (q := 53) G rfl dX5_comes_52 rfl ?_
    refine bq_callv (q := 56) G dX5_comes_53 rfl cl_X5_66 (c_X5_loadOf hM hC hk) rfl (by first | assumption | exact ⟨Nat.le_of_ble_eq_true rfl, rfl⟩) rfl ⟨Nat.le_of_ble_eq_true rfl, Nat.le_of_ble_eq_true rfl⟩ (Nat.le_of_ble_eq_true rfl) ⟨Nat.le_of_ble_eq_true rfl, Nat.le_of_ble_eq_true rfl⟩ rfl ?_
    refine bq_iadd (q := 57) G dX5_comes_56 rfl ?_
    refine bq_calls (q := 60) G dX5_comes_57 rfl cl_X5_58 (c_J9_min_7cf53) rfl rfl ⟨Nat.le_of_ble_eq_true rfl, Nat.le_of_ble_eq_true rfl⟩ (Nat.le_of_ble_eq_true rfl) ⟨Nat.le_of_ble_eq_true rfl, Nat.le_of_ble_eq_true rfl⟩ rfl ?_
    refine bq_puti (q := 63) G dX5_comes_60 rfl fl_X5_25 (by first | assumption | exact ⟨Nat.le_of_ble_eq_true rfl, rfl⟩) rfl rfl ?_
    refine tail _ ?_
    rw [e4] at c20
    unfold gs_wa
    rw [if_neg c20, hC.1, gs_in hw hld]
  · refine bq_aload_n (q := 24) G rfl dX5_comes_23 rfl ?_
    refine bq_iconst (q := 25) (v := 0) G (by decide) dX5_comes_24 rfl ?_
    refine bq_aload_n (q := 26) G rfl dX5_comes_25 rfl ?_
    refine bq_geti (q := 29) G dX5_comes_26 rfl fl_X5_25 (by first | assumption | exact ⟨Nat.le_of_ble_eq_true rfl, rfl⟩) rfl ?_
    refine bq_aload_n (q := 30) G rfl dX5_comes_29 rfl ?_
    refine bq_iload_n (q := 31) G rfl dX5_comes_30 rfl ?_
    refine bq_callv (q := 34) G dX5_comes_31 rfl cl_X5_66 (c_X5_loadOf hM hC hk) rfl (by first | assumption | exact ⟨Nat.le_of_ble_eq_true rfl, rfl⟩) rfl ⟨Nat.le_of_ble_eq_true rfl, Nat.le_of_ble_eq_true rfl⟩ (Nat.le_of_ble_eq_true rfl) ⟨Nat.le_of_ble_eq_true rfl, Nat.le_of_ble_eq_true rfl⟩ rfl ?_
    refine bq_isub (q := 35) G dX5_comes_34 rfl ?_
    refine bq_calls (q := 38) G dX5_comes_35 rfl cl_X5_70 (c_J9_max_7cf53) rfl rfl ⟨Nat.le_of_ble_eq_true rfl, Nat.le_of_ble_eq_true rfl⟩ (Nat.le_of_ble_eq_true rfl) ⟨Nat.le_of_ble_eq_true rfl, Nat.le_of_ble_eq_true rfl⟩ rfl ?_
    refine bq_puti (q := 41) G dX5_comes_38 rfl fl_X5_25 (by first | assumption | exact ⟨Nat.le_of_ble_eq_true rfl, rfl⟩) rfl rfl ?_
    refine bq_goto (q := 63) G dX5_comes_41 (by decide) ?_
    refine tail _ ?_
    rw [e4] at c20
    unfold gs_wa
    rw [if_pos c20, hC.1, gs_out hw hld]
theorem bq_m1 (x : Int32) : x + Int32.ofInt (-1) = x - 1 := by rw [show Int32.ofInt (-1) = -1 from by decide, Int32.sub_eq_add_neg]
theorem gs_1_e {k : Nat} {S : Nat → Int32} (j : Nat) : gs_1 k S j = if j = 19 + k then S (19 + k) - S (51 + k) else S j := rfl
theorem gs_1_51 {k : Nat} {S : Nat → Int32} : gs_1 k S (51 + k) = S (51 + k) := by rw [gs_1_e, if_neg (by omega)]
theorem gs_1_19 {k : Nat} {S : Nat → Int32} : gs_1 k S (19 + k) = S (19 + k) - S (51 + k) := by rw [gs_1_e, if_pos rfl]
theorem gs_Ok.one {S : Nat → Int32} (h : gs_Ok S) (k : Nat) (hk : k < 8) : gs_Ok (gs_1 k S) := by
  unfold gs_1
  refine ⟨by rw [pk_un (by omega)]; exact h.1, fun b hb => ?_⟩
  rw [pk_un (by omega), pk_un (by omega), pk_un (by omega), pk_un (by omega), pk_un (by omega), pk_un (by omega)]
  exact h.2 b hb
theorem gs_Ok.two {S : Nat → Int32} (h : gs_Ok S) (k : Nat) (hk : k < 8) : gs_Ok (gs_2 k S) := by
  unfold gs_2
  refine ⟨by rw [pk_un (by omega), pk_un (by omega), pk_us]; exact gs_cl_in _, fun b hb => ?_⟩
  rw [pk_un (j := 3 + b) (by omega), pk_un (j := 3 + b) (by omega), pk_un (j := 3 + b) (by omega), pk_un (j := 51 + b) (by omega), pk_un (j := 51 + b) (by omega), pk_un (j := 51 + b) (by omega), pk_un (j := 11 + b) (by omega), pk_un (j := 11 + b) (by omega), pk_un (j := 11 + b) (by omega), pk_un (j := 27 + b) (by omega), pk_un (j := 27 + b) (by omega), pk_un (j := 27 + b) (by omega), pk_un (j := 35 + b) (by omega), pk_un (j := 35 + b) (by omega), pk_un (j := 35 + b) (by omega)]
  obtain ⟨g1, g2, g3, g4, g5, g6⟩ := h.2 b hb
  refine ⟨g1, g2, g3, g4, ?_, g6⟩
  by_cases e : b = k
  · subst e; rw [pk_us]; exact Or.inr rfl
  · rw [pk_un (by omega), pk_un (by omega), pk_un (by omega)]; exact g5
theorem gs_Ok.st {x : gs_X} (h : gs_Ok x.1) (k : Nat) (hk : k < 8) : gs_Ok (gs_st k x).1 := by
  unfold gs_st
  split
  · exact (h.one k hk).two k hk
  · exact h.one k hk
theorem gs_Ok.lp {x : gs_X} (h : gs_Ok x.1) : ∀ k, k ≤ 8 → gs_Ok (gs_lp k x).1
  | 0, _ => h
  | k + 1, hk => gs_Ok.st (gs_Ok.lp h k (by omega)) k (by omega)
def bq_PI (I : bq_IR) (a : Nat) (x : gs_X) (J : bq_IR) : Prop := (bq_MC J a x.1 ∧ J a 0 = I a 0 + 1 ∧ J a 2 = I a 2 ∧ J a 10 = x.2.2 ∧ J a 11 = I a 11) ∧ ∀ y, (y < a ∨ a + 3 < y) → J y = I y
set_option maxHeartbeats 1000000 in
set_option maxRecDepth 100000 in
theorem c_X5_pass {z n : Nat} {R : bq_RR} {I : bq_IR} {L : bq_LR} {a : Nat} {w d : Int32} {S : Nat → Int32} (hM : bq_Mo z n R a) (hC : bq_MC I a S) (hS : gs_Ok S) : bq_FV MX5_pass z [.ref (z + a), .int w, .int d] n R I L (fun J L' => (bq_MC J a (gs_min w d S) ∧ J a 0 = I a 0 + 1 ∧ J a 2 = I a 2 ∧ J a 10 = (gs_T w S).2.2 ∧ J a 11 = gs_ran (gs_T w S).1 d) ∧ (∀ x, (x < a ∨ a + 3 < x) → J x = I x) ∧ L' = L) := by
  refine bq_FVof [some (.ref (z + a)), some (.int w), some (.int d), none, none] rfl (Nat.le_of_ble_eq_true rfl) (by decide) rfl ?_
  intro A G hret
  have G : bq_Cx cX5_pass RX5 5 z (bq_rm MX5_pass 0 0) "pass" A := G
  obtain ⟨hM0, hM1, hM2, hM3, hR3, hR4, hR5⟩ := id hM
  have loop : ∀ k, k ≤ 8 → ∀ J : bq_IR, bq_PI I a (gs_lp k (S, w, 0)) J → A 0 0 20 [some (.ref (z + a)), some (.int w), some (.int d), some (.int (gs_lp k (S, w, 0)).2.1), some (.int (nI k))] [] n R J L := by
    refine bq_down 8 ?_
    intro k hk ih J hJ
    have hok : gs_Ok (gs_lp k (S, w, 0)).1 := gs_Ok.lp (x := (S, w, 0)) hS k hk
    have hsucc : gs_lp (k + 1) (S, w, 0) = gs_st k (gs_lp k (S, w, 0)) := rfl
    rw [hsucc] at ih
    generalize hx : gs_lp k (S, w, 0) = x at hok ih hJ ⊢
    obtain ⟨⟨hC1, j0, j2, j10, j11⟩, hfr⟩ := hJ
    rcases Nat.lt_or_ge k 8 with hk8 | hk8
    · have ih := ih hk8
      have no : ∀ J' : bq_IR, ¬ (gs_1 k x.1 (51 + k) = 1 ∧ gs_1 k x.1 (19 + k) ≤ 0 ∧ 0 < x.2.1) → bq_MC J' a (gs_1 k x.1) → J' a 0 = I a 0 + 1 → J' a 2 = I a 2 → J' a 10 = x.2.2 → J' a 11 = I a 11 → (∀ y, (y < a ∨ a + 3 < y) → J' y = I y) → A 0 0 70 [some (.ref (z + a)), some (.int w), some (.int d), some (.int x.2.1), some (.int (nI k))] [] n R J' L := by
        intro J' hn m1 m2 m3 m4 m5 m6
        have e : gs_st k x = (gs_1 k x.1, x.2.1, x.2.2) := if_neg hn
        rw [e] at ih
        refine bq_iinc (q := 73) (ls' := [_, _, _, _, _]) G dX5_pass_70 rfl rfl (by first | exact nI_1 _ | exact pk_m1 _ | rfl) (by decide) rfl rfl ?_
        refine bq_goto (q := 20) G dX5_pass_73 (by decide) ?_
        exact ih J' ⟨⟨m1, m2, m3, m4, m5⟩, m6⟩
      refine bq_iload (q := 22) G rfl dX5_pass_20 rfl ?_
      refine bq_bipush (q := 24) (v := 8) G (by decide) dX5_pass_22 rfl ?_
      refine bq_icmp_ge_f (q := 27) (t := 76) G dX5_pass_24 rfl (by decide) (nI_ge (a := k) (b := 8) hk8 (by decide)) ?_
      refine bq_aload_n (q := 28) G rfl dX5_pass_27 rfl ?_
      refine bq_iload (q := 30) G rfl dX5_pass_28 rfl ?_
      refine bq_callv (q := 33) G dX5_pass_30 rfl cl_X5_50 (c_isThere hM0 hk8 hC1.2.2.2.2.2) rfl (by first | assumption | exact ⟨Nat.le_of_ble_eq_true rfl, rfl⟩) rfl ⟨Nat.le_of_ble_eq_true rfl, Nat.le_of_ble_eq_true rfl⟩ (Nat.le_of_ble_eq_true rfl) ⟨Nat.le_of_ble_eq_true rfl, Nat.le_of_ble_eq_true rfl⟩ rfl ?_
      first | refine bq_ifb_eq (t := 70) (q := 36) G dX5_pass_33 (by decide) rfl (fun c33 => ?_) (fun c33 => ?_) | refine bq_if_eq (t := 70) (q := 36) G dX5_pass_33 (by decide) rfl (fun c33 => ?_) (fun c33 => ?_)
      · refine no J (fun h => c33 (by rw [gs_1_51] at h; exact h.1)) (hC1.row (fun j _ _ _ => ?_)) j0 j2 j10 j11 hfr
        rw [gs_1_e]
        split
        · rename_i e
          have : x.1 (51 + k) = 0 := by
            rcases (hok.2 k hk8).2.2.2.2.2 with h | h
            · exact h
            · exact absurd h c33
          rw [e, this, Int32.sub_zero]
        · rfl
      · have ed : J (a + 3) k = x.1 (19 + k) := (hC1.2.1 k hk8).2.2
        have m1 : bq_MC (bq_sr J (a + 3) (upd (J (a + 3)) k (J (a + 3) k - 1))) a (gs_1 k x.1) := by
          have := hC1.due hk8 (J (a + 3) k - 1)
          unfold gs_1
          rw [c33, ← ed]
          exact this
        have fr1 : ∀ y, (y < a ∨ a + 3 < y) → bq_sr J (a + 3) (upd (J (a + 3)) k (J (a + 3) k - 1)) y = I y := fun y hy => by rw [bq_sr_n (by omega)]; exact hfr y hy
        have q0 : bq_sr J (a + 3) (upd (J (a + 3)) k (J (a + 3) k - 1)) a = J a := bq_sr_n (by omega)
        refine bq_aload_n (q := 37) G rfl dX5_pass_36 rfl ?_
        refine bq_getr (q := 40) G dX5_pass_37 rfl fl_X5_18 (by first | assumption | exact ⟨Nat.le_of_ble_eq_true rfl, rfl⟩) (fun _ _ _ => rfl) (by first | assumption | rfl) ?_
        refine bq_iload (q := 42) G rfl dX5_pass_40 rfl ?_
        refine bq_dup2 (q := 43) G rfl rfl dX5_pass_42 rfl ?_
        refine bq_iald (q := 44) G dX5_pass_43 rfl (by first | assumption | exact ⟨Nat.le_of_ble_eq_true rfl, rfl⟩) (by first | with_reducible assumption | exact rfl | exact bq_ixa rfl (by with_reducible assumption) | exact bq_ixa rfl rfl | exact bq_ixa (by with_reducible assumption) rfl | exact bq_ixa rfl (bq_ixa (by first | rfl | with_reducible assumption) (by first | rfl | with_reducible assumption))) (by first | with_reducible assumption | omega | decide) (by decide) ?_
        refine bq_iconst (q := 45) (v := 1) G (by decide) dX5_pass_44 rfl ?_
        refine bq_isub (q := 46) G dX5_pass_45 rfl ?_
        refine bq_iast (q := 47) G dX5_pass_46 rfl (by first | assumption | exact ⟨Nat.le_of_ble_eq_true rfl, rfl⟩) (by first | with_reducible assumption | exact rfl | exact bq_ixa rfl (by with_reducible assumption) | exact bq_ixa rfl rfl | exact bq_ixa (by with_reducible assumption) rfl | exact bq_ixa rfl (bq_ixa (by first | rfl | with_reducible assumption) (by first | rfl | with_reducible assumption))) (by first | with_reducible assumption | omega | decide) (by decide) ?_
        have e3 : bq_sr J (a + 3) (upd (J (a + 3)) k (J (a + 3) k - 1)) (a + 3) k = gs_1 k x.1 (19 + k) := (m1.2.1 k hk8).2.2
        generalize bq_sr J (a + 3) (upd (J (a + 3)) k (J (a + 3) k - 1)) = J1 at m1 fr1 q0 e3 ⊢
        rw [← q0] at j0 j2 j10 j11
        refine bq_aload_n (q := 48) G rfl dX5_pass_47 rfl ?_
        refine bq_getr (q := 51) G dX5_pass_48 rfl fl_X5_18 (by first | assumption | exact ⟨Nat.le_of_ble_eq_true rfl, rfl⟩) (fun _ _ _ => rfl) (by first | assumption | rfl) ?_
        refine bq_iload (q := 53) G rfl dX5_pass_51 rfl ?_
        refine bq_iald (q := 54) G dX5_pass_53 rfl (by first | assumption | exact ⟨Nat.le_of_ble_eq_true rfl, rfl⟩) (by first | with_reducible assumption | exact rfl | exact bq_ixa rfl (by with_reducible assumption) | exact bq_ixa rfl rfl | exact bq_ixa (by with_reducible assumption) rfl | exact bq_ixa rfl (bq_ixa (by first | rfl | with_reducible assumption) (by first | rfl | with_reducible assumption))) (by first | with_reducible assumption | omega | decide) (by decide) ?_
        refine bq_if_gt (t := 70) (q := 57) G dX5_pass_54 (by decide) rfl (fun c54 => ?_) (fun c54 => ?_)
        · refine no J1 (fun h => ?_) m1 j0 j2 j10 j11 fr1
          rw [e3] at c54
          exact absurd c54 (Int32.not_lt.mpr h.2.1)
        · refine bq_iload_n (q := 58) G rfl dX5_pass_57 rfl ?_
          refine bq_if_le (t := 70) (q := 61) G dX5_pass_58 (by decide) rfl (fun c58 => ?_) (fun c58 => ?_)
          · refine no J1 (fun h => ?_) m1 j0 j2 j10 j11 fr1
            exact absurd h.2.2 (Int32.not_lt.mpr c58)
          · have e : gs_st k x = (gs_2 k (gs_1 k x.1), x.2.1 - 1, x.2.2 ||| (1 <<< (nI k &&& 31))) := if_pos ⟨by rw [gs_1_51]; exact c33, by rw [← e3]; exact Int32.not_lt.mp c54, Int32.not_le.mp c58⟩
            rw [e] at ih
            have ok1 := hok.one k hk8
            refine bq_iinc (q := 64) (ls' := [_, _, _, _, _]) G dX5_pass_61 rfl rfl (bq_m1 _) (by decide) rfl rfl ?_
            refine bq_aload_n (q := 65) G rfl dX5_pass_64 rfl ?_
            refine bq_iload (q := 67) G rfl dX5_pass_65 rfl ?_
            refine bq_callvV (q := 70) G dX5_pass_67 rfl cl_X5_54 (c_X5_comes hM m1 hk8 ok1.1 (ok1.2 k hk8).1) rfl (by first | assumption | exact ⟨Nat.le_of_ble_eq_true rfl, rfl⟩) rfl ⟨Nat.le_of_ble_eq_true rfl, Nat.le_of_ble_eq_true rfl⟩ (Nat.le_of_ble_eq_true rfl) ⟨Nat.le_of_ble_eq_true rfl, Nat.le_of_ble_eq_true rfl⟩ (fun I67 L67 h67 => ?_)
            obtain ⟨⟨p1, p2, p3, p4, p5⟩, p6, rfl⟩ := h67
            refine bq_iinc (q := 73) (ls' := [_, _, _, _, _]) G dX5_pass_70 rfl rfl (by first | exact nI_1 _ | exact pk_m1 _ | rfl) (by decide) rfl rfl ?_
            refine bq_goto (q := 20) G dX5_pass_73 (by decide) ?_
            exact ih I67 ⟨⟨p1, p2.trans j0, p3.trans j2, by rw [p4, j10], p5.trans j11⟩, fun y hy => (p6 y hy).trans (fr1 y hy)⟩
    · have hk9 : k = 8 := by omega
      subst hk9
      refine bq_iload (q := 22) G rfl dX5_pass_20 rfl ?_
      refine bq_bipush (q := 24) (v := 8) G (by decide) dX5_pass_22 rfl ?_
      refine bq_icmp_ge_t (t := 76) G dX5_pass_24 (by decide) (nI_le (a := 8) (b := 8) (by omega) (by decide)) ?_
      refine bq_aload_n (q := 77) G rfl dX5_pass_76 rfl ?_
      refine bq_iload_n (q := 78) G rfl dX5_pass_77 rfl ?_
      refine bq_aload_n (q := 79) G rfl dX5_pass_78 rfl ?_
      refine bq_geti (q := 82) G dX5_pass_79 rfl fl_X5_25 (by first | assumption | exact ⟨Nat.le_of_ble_eq_true rfl, rfl⟩) rfl ?_
      refine bq_calls (q := 85) G dX5_pass_82 rfl cl_X5_58 (c_J9_min_7cf53) rfl rfl ⟨Nat.le_of_ble_eq_true rfl, Nat.le_of_ble_eq_true rfl⟩ (Nat.le_of_ble_eq_true rfl) ⟨Nat.le_of_ble_eq_true rfl, Nat.le_of_ble_eq_true rfl⟩ rfl ?_
      refine bq_puti (q := 88) G dX5_pass_85 rfl fl_X5_63 (by first | assumption | exact ⟨Nat.le_of_ble_eq_true rfl, rfl⟩) rfl rfl ?_
      refine bq_aload_n (q := 89) G rfl dX5_pass_88 rfl ?_
      refine bq_dup (q := 90) G rfl dX5_pass_89 rfl ?_
      refine bq_geti (q := 93) G dX5_pass_90 rfl fl_X5_25 (by first | assumption | exact ⟨Nat.le_of_ble_eq_true rfl, rfl⟩) rfl ?_
      refine bq_aload_n (q := 94) G rfl dX5_pass_93 rfl ?_
      refine bq_geti (q := 97) G dX5_pass_94 rfl fl_X5_63 (by first | assumption | exact ⟨Nat.le_of_ble_eq_true rfl, rfl⟩) rfl ?_
      refine bq_isub (q := 98) G dX5_pass_97 rfl ?_
      refine bq_puti (q := 101) G dX5_pass_98 rfl fl_X5_25 (by first | assumption | exact ⟨Nat.le_of_ble_eq_true rfl, rfl⟩) rfl rfl ?_
      have hT : gs_T w S = x := hx
      have er : (if J a 1 < d then J a 1 else d) = gs_ran x.1 d := by rw [hC1.1]; rfl
      refine hret _ _ _ _ dX5_pass_101 ⟨⟨?_, ?_, ?_, ?_, ?_⟩, ?_, rfl⟩
      · have ev : bq_sr J a (upd (J a) 11 (if J a 1 < d then J a 1 else d)) a 1 - bq_sr J a (upd (J a) 11 (if J a 1 < d then J a 1 else d)) a 11 = x.1 1 - gs_ran x.1 d := by rw [bq_sru, bq_sru, if_neg (by decide), if_pos rfl, er, hC1.1]
        refine ((hC1.oth 11 _ (by omega)).water _).row (fun j _ h0 _ => ?_)
        unfold gs_min
        rw [hT, pk_un h0, ev]
      · simp [bq_sr, upd, j0]
      · simp [bq_sr, upd, j2]
      · rw [hT]; simp [bq_sr, upd, j10]
      · rw [hT]; simp [bq_sr, upd]; exact er
      · intro y hy
        rw [bq_sr_n (by omega), bq_sr_n (by omega)]
        exact hfr y hy
  refine bq_aload_n (q := 1) G rfl dX5_pass_0 rfl ?_
  refine bq_dup (q := 2) G rfl dX5_pass_1 rfl ?_
  refine bq_geti (q := 5) G dX5_pass_2 rfl fl_X5_21 (by first | assumption | exact ⟨Nat.le_of_ble_eq_true rfl, rfl⟩) rfl ?_
  refine bq_iconst (q := 6) (v := 1) G (by decide) dX5_pass_5 rfl ?_
  refine bq_iadd (q := 7) G dX5_pass_6 rfl ?_
  refine bq_puti (q := 10) G dX5_pass_7 rfl fl_X5_21 (by first | assumption | exact ⟨Nat.le_of_ble_eq_true rfl, rfl⟩) rfl rfl ?_
  refine bq_aload_n (q := 11) G rfl dX5_pass_10 rfl ?_
  refine bq_iconst (q := 12) (v := 0) G (by decide) dX5_pass_11 rfl ?_
  refine bq_puti (q := 15) G dX5_pass_12 rfl fl_X5_47 (by first | assumption | exact ⟨Nat.le_of_ble_eq_true rfl, rfl⟩) rfl rfl ?_
  refine bq_iload_n (q := 16) G rfl dX5_pass_15 rfl ?_
  refine bq_istore_n (q := 17) (ls' := [_, _, _, _, _]) G dX5_pass_16 rfl (by decide) rfl rfl ?_
  refine bq_iconst (q := 18) (v := 0) G (by decide) dX5_pass_17 rfl ?_
  refine bq_istore (q := 20) (ls' := [_, _, _, _, _]) G dX5_pass_18 rfl (by decide) rfl rfl ?_
  refine loop 0 (by omega) _ ⟨⟨(hC.oth 0 _ (by omega)).oth 10 0 (by omega), ?_, ?_, ?_, ?_⟩, ?_⟩
  · simp [bq_sr, upd]
  · simp [bq_sr, upd]
  · simp [bq_sr, upd, gs_lp]
  · simp [bq_sr, upd]
  · intro y hy
    simp only [bq_sr]
    (repeat' split) <;> first | rfl | omega
end
section
/-! the first free number, splitting -/
def gs_fk (S : Nat → Int32) : Nat → Nat → Int32
  | 0, _ => -9
  | d + 1, k => if S (51 + k) = 0 then nI k else gs_fk S d (k + 1)
theorem gs_fk_or (S : Nat → Int32) : ∀ d k, gs_fk S d k = -9 ∨ ∃ o, k ≤ o ∧ o < k + d ∧ gs_fk S d k = nI o ∧ S (51 + o) = 0
  | 0, k => Or.inl rfl
  | d + 1, k => by
    unfold gs_fk
    split
    · rename_i h; exact Or.inr ⟨k, Nat.le_refl k, by omega, rfl, h⟩
    · rcases gs_fk_or S d (k + 1) with h | ⟨o, h1, h2, h3, h4⟩
      · exact Or.inl h
      · exact Or.inr ⟨o, by omega, by omega, h3, h4⟩
theorem gs_fk_neg {S : Nat → Int32} : gs_fk S 8 0 < 0 ↔ gs_fk S 8 0 = -9 := by
  rcases gs_fk_or S 8 0 with h | ⟨o, -, h2, h3, -⟩
  · rw [h]; decide
  · rw [h3]
    refine ⟨fun h => absurd h (nI_pos (by omega)), fun h => ?_⟩
    have : (nI o).toInt = (-9 : Int32).toInt := by rw [h]
    rw [nI_toInt (by omega)] at this
    have e9 : (-9 : Int32).toInt = -9 := by decide
    omega
theorem gs_fk_congr {S S' : Nat → Int32} (h : ∀ j, j < 8 → S' (51 + j) = S (51 + j)) : ∀ d k, k + d ≤ 8 → gs_fk S' d k = gs_fk S d k
  | 0, k, _ => rfl
  | d + 1, k, hk => by unfold gs_fk; rw [h k (by omega), gs_fk_congr h d (k + 1) (by omega)]
set_option maxHeartbeats 1000000 in
set_option maxRecDepth 100000 in
theorem c_X5_firstFree {z n : Nat} {R : bq_RR} {I : bq_IR} {L : bq_LR} {a : Nat} {S : Nat → Int32} (hM0 : bq_OB n a 5) (hF : gs_F S 51 (I a 9)) : bq_FC MX5_firstFree z [.ref (z + a)] n R I L 0 0 (some (.int (gs_fk S 8 0))) n R (I) (L) := by
  refine bq_ofI [some (.ref (z + a)), none] rfl (Nat.le_of_ble_eq_true rfl) (by decide) rfl rfl ?_
  intro A G hret
  have G : bq_Cx cX5_firstFree RX5 2 z (bq_rm MX5_firstFree 0 0) "firstFree" A := G
  have loop : ∀ k, k ≤ 8 → gs_fk S (8 - k) k = gs_fk S 8 0 → A 0 0 2 [some (.ref (z + a)), some (.int (nI k))] [] n R I L := by
    refine bq_down 8 ?_
    intro k hk ih he
    rcases Nat.lt_or_ge k 8 with hk8 | hk8
    · have hd : 8 - k = (8 - (k + 1)) + 1 := by omega
      rw [hd] at he
      unfold gs_fk at he
      refine bq_iload_n (q := 3) G rfl dX5_firstFree_2 rfl ?_
      refine bq_bipush (q := 5) (v := 8) G (by decide) dX5_firstFree_3 rfl ?_
      refine bq_icmp_ge_f (q := 8) (t := 24) G dX5_firstFree_5 rfl (by decide) (nI_ge (a := k) (b := 8) hk8 (by decide)) ?_
      refine bq_aload_n (q := 9) G rfl dX5_firstFree_8 rfl ?_
      refine bq_iload_n (q := 10) G rfl dX5_firstFree_9 rfl ?_
      refine bq_callv (q := 13) G dX5_firstFree_10 rfl cl_X5_50 (c_isThere hM0 hk8 hF) rfl (by first | assumption | exact ⟨Nat.le_of_ble_eq_true rfl, rfl⟩) rfl ⟨Nat.le_of_ble_eq_true rfl, Nat.le_of_ble_eq_true rfl⟩ (Nat.le_of_ble_eq_true rfl) ⟨Nat.le_of_ble_eq_true rfl, Nat.le_of_ble_eq_true rfl⟩ rfl ?_
      first | refine bq_ifb_ne (t := 18) (q := 16) G dX5_firstFree_13 (by decide) rfl (fun c13 => ?_) (fun c13 => ?_) | refine bq_if_ne (t := 18) (q := 16) G dX5_firstFree_13 (by decide) rfl (fun c13 => ?_) (fun c13 => ?_)
      · rw [if_neg (by rw [c13]; decide)] at he
        refine bq_iinc (q := 21) (ls' := [_, _]) G dX5_firstFree_18 rfl rfl (by first | exact nI_1 _ | exact pk_m1 _ | rfl) (by decide) rfl rfl ?_
        refine bq_goto (q := 2) G dX5_firstFree_21 (by decide) ?_
        exact ih hk8 he
      · have : S (51 + k) = 0 := by
          rcases hF.b01 hk8 with h | h
          · exact h
          · exact absurd h c13
        rw [if_pos this] at he
        refine bq_iload_n (q := 17) G rfl dX5_firstFree_16 rfl ?_
        exact bq_ri (hret _ _ dX5_firstFree_17) he rfl rfl
    · have hk9 : k = 8 := by omega
      subst hk9
      refine bq_iload_n (q := 3) G rfl dX5_firstFree_2 rfl ?_
      refine bq_bipush (q := 5) (v := 8) G (by decide) dX5_firstFree_3 rfl ?_
      refine bq_icmp_ge_t (t := 24) G dX5_firstFree_5 (by decide) (nI_le (a := 8) (b := 8) (by omega) (by decide)) ?_
      refine bq_bipush (q := 26) (v := -9) G (by decide) dX5_firstFree_24 rfl ?_
      exact bq_ri (hret _ _ dX5_firstFree_26) he rfl rfl
  refine bq_iconst (q := 1) (v := 0) G (by decide) dX5_firstFree_0 rfl ?_
  refine bq_istore_n (q := 2) (ls' := [_, _]) G dX5_firstFree_1 rfl (by decide) rfl rfl ?_
  exact loop 0 (by omega) rfl
set_option maxHeartbeats 1000000 in
set_option maxRecDepth 100000 in
theorem c_X5_canSplit {z n : Nat} {R : bq_RR} {I : bq_IR} {L : bq_LR} {a : Nat} {k : Nat} {S : Nat → Int32} (hM : bq_Mo z n R a) (hC : bq_MC I a S) (hk : k < 8) : bq_FC MX5_canSplit z [.ref (z + a), .int (nI k)] n R I L 0 0 (some (.int (if S (51 + k) = 1 ∧ (S (3 + k) ≤ 1 ∨ 0 ≤ gs_fk S 8 0) then 1 else 0))) n R (I) (L) := by
  refine bq_ofI [some (.ref (z + a)), some (.int (nI k))] rfl (Nat.le_of_ble_eq_true rfl) (by decide) rfl (by first | rfl | exact bq_nb _ | (split <;> rfl)) ?_
  intro A G hret
  have G : bq_Cx cX5_canSplit RX5 2 z (bq_rm MX5_canSplit 0 0) "canSplit" A := G
  obtain ⟨hM0, hM1, hM2, hM3, hR3, hR4, hR5⟩ := id hM
  have es := (hC.2.1 k hk).1
  refine bq_aload_n (q := 1) G rfl dX5_canSplit_0 rfl ?_
  refine bq_iload_n (q := 2) G rfl dX5_canSplit_1 rfl ?_
  refine bq_callv (q := 5) G dX5_canSplit_2 rfl cl_X5_50 (c_isThere hM0 hk hC.2.2.2.2.2) rfl (by first | assumption | exact ⟨Nat.le_of_ble_eq_true rfl, rfl⟩) rfl ⟨Nat.le_of_ble_eq_true rfl, Nat.le_of_ble_eq_true rfl⟩ (Nat.le_of_ble_eq_true rfl) ⟨Nat.le_of_ble_eq_true rfl, Nat.le_of_ble_eq_true rfl⟩ rfl ?_
  first | refine bq_ifb_eq (t := 29) (q := 8) G dX5_canSplit_5 (by decide) rfl (fun c5 => ?_) (fun c5 => ?_) | refine bq_if_eq (t := 29) (q := 8) G dX5_canSplit_5 (by decide) rfl (fun c5 => ?_) (fun c5 => ?_)
  · refine bq_iconst (q := 30) (v := 0) G (by decide) dX5_canSplit_29 rfl ?_
    exact bq_ri (hret _ _ dX5_canSplit_30) (by rw [if_neg (fun h => c5 h.1)]) rfl rfl
  · refine bq_aload_n (q := 9) G rfl dX5_canSplit_8 rfl ?_
    refine bq_getr (q := 12) G dX5_canSplit_9 rfl fl_X5_9 (by first | assumption | exact ⟨Nat.le_of_ble_eq_true rfl, rfl⟩) (fun _ _ _ => rfl) (by first | assumption | rfl) ?_
    refine bq_iload_n (q := 13) G rfl dX5_canSplit_12 rfl ?_
    refine bq_iald (q := 14) G dX5_canSplit_13 rfl (by first | assumption | exact ⟨Nat.le_of_ble_eq_true rfl, rfl⟩) (by first | with_reducible assumption | exact rfl | exact bq_ixa rfl (by with_reducible assumption) | exact bq_ixa rfl rfl | exact bq_ixa (by with_reducible assumption) rfl | exact bq_ixa rfl (bq_ixa (by first | rfl | with_reducible assumption) (by first | rfl | with_reducible assumption))) (by first | with_reducible assumption | omega | decide) (by decide) ?_
    refine bq_iconst (q := 15) (v := 1) G (by decide) dX5_canSplit_14 rfl ?_
    refine bq_icmp_le (t := 25) (q := 18) G dX5_canSplit_15 (by decide) rfl (fun c15 => ?_) (fun c15 => ?_)
    · rw [es] at c15
      refine bq_iconst (q := 26) (v := 1) G (by decide) dX5_canSplit_25 rfl ?_
      refine bq_goto (q := 30) G dX5_canSplit_26 (by decide) ?_
      exact bq_ri (hret _ _ dX5_canSplit_30) (by rw [if_pos ⟨c5, Or.inl c15⟩]) rfl rfl
    · rw [es] at c15
      refine bq_aload_n (q := 19) G rfl dX5_canSplit_18 rfl ?_
      refine bq_callv (q := 22) G dX5_canSplit_19 rfl cl_X5_74 (c_X5_firstFree hM0 hC.2.2.2.2.2) rfl (by first | assumption | exact ⟨Nat.le_of_ble_eq_true rfl, rfl⟩) rfl ⟨Nat.le_of_ble_eq_true rfl, Nat.le_of_ble_eq_true rfl⟩ (Nat.le_of_ble_eq_true rfl) ⟨Nat.le_of_ble_eq_true rfl, Nat.le_of_ble_eq_true rfl⟩ rfl ?_
      refine bq_if_lt (t := 29) (q := 25) G dX5_canSplit_22 (by decide) rfl (fun c22 => ?_) (fun c22 => ?_)
      · refine bq_iconst (q := 30) (v := 0) G (by decide) dX5_canSplit_29 rfl ?_
        exact bq_ri (hret _ _ dX5_canSplit_30) (by rw [if_neg (fun h => h.2.elim c15 (fun h => Int32.not_lt.mpr h c22))]) rfl rfl
      · refine bq_iconst (q := 26) (v := 1) G (by decide) dX5_canSplit_25 rfl ?_
        refine bq_goto (q := 30) G dX5_canSplit_26 (by decide) ?_
        exact bq_ri (hret _ _ dX5_canSplit_30) (by rw [if_pos ⟨c5, Or.inr (Int32.not_lt.mp c22)⟩]) rfl rfl
set_option maxHeartbeats 1000000 in
set_option maxRecDepth 100000 in
theorem c_X5_alike {z n : Nat} {R : bq_RR} {I : bq_IR} {L : bq_LR} {x b o : Int32}  : bq_FC MX5_alike z [.int x, .int b, .int o] n R I L 0 0 (some (.int ((x &&& ((1 <<< (o &&& 31)) ^^^ (-1))) ||| ((x >>> (b &&& 31) &&& 1) <<< (o &&& 31))))) n R (I) (L) := by
  refine bq_ofI [some (.int x), some (.int b), some (.int o)] rfl (Nat.le_of_ble_eq_true rfl) (by decide) rfl rfl ?_
  intro A G hret
  have G : bq_Cx cX5_alike RX5 3 z (bq_rm MX5_alike 0 0) "alike" A := G
  refine bq_iload_n (q := 1) G rfl dX5_alike_0 rfl ?_
  refine bq_iconst (q := 2) (v := 1) G (by decide) dX5_alike_1 rfl ?_
  refine bq_iload_n (q := 3) G rfl dX5_alike_2 rfl ?_
  refine bq_ishl (q := 4) G dX5_alike_3 rfl ?_
  refine bq_iconst (q := 5) (v := -1) G (by decide) dX5_alike_4 rfl ?_
  refine bq_ixor (q := 6) G dX5_alike_5 rfl ?_
  refine bq_iand (q := 7) G dX5_alike_6 rfl ?_
  refine bq_iload_n (q := 8) G rfl dX5_alike_7 rfl ?_
  refine bq_iload_n (q := 9) G rfl dX5_alike_8 rfl ?_
  refine bq_callsN (q := 12) G dX5_alike_9 rfl (by first | exact Or.inl ⟨rfl, rfl⟩ | exact Or.inr ⟨rfl, rfl⟩) (c_X8_bitOf) rfl rfl ⟨Nat.le_of_ble_eq_true rfl, Nat.le_of_ble_eq_true rfl⟩ (Nat.le_of_ble_eq_true rfl) ⟨Nat.le_of_ble_eq_true rfl, Nat.le_of_ble_eq_true rfl⟩ rfl ?_
  refine bq_iload_n (q := 13) G rfl dX5_alike_12 rfl ?_
  refine bq_ishl (q := 14) G dX5_alike_13 rfl ?_
  refine bq_ior (q := 15) G dX5_alike_14 rfl ?_
  exact hret _ _ dX5_alike_15
theorem gs_sh0 : ∀ o, o < 8 → (0 : Int32) <<< (nI o &&& 31) = 0 := by decide +kernel
theorem gs_or0 (x : Int32) : x ||| 0 = x := by
  apply Int32.toBitVec_inj.mp
  simp
theorem gs_uu {S : Nat → Int32} {i : Nat} {v w : Int32} : upd (upd S i v) i w = upd S i w := by
  funext j; unfold upd; split <;> rfl
theorem gs_F.like {S : Nat → Int32} {f : Nat} {w : Int32} (h : gs_F S f w) {k o : Nat} (hk : k < 8) (ho : o < 8) : gs_F (upd S (f + o) (S (f + k))) f ((w &&& ((1 <<< (nI o &&& 31)) ^^^ (-1))) ||| ((w >>> (nI k &&& 31) &&& 1) <<< (nI o &&& 31))) := by
  rw [h.get hk]
  rcases h.b01 hk with e | e <;> rw [e]
  · rw [gs_sh0 o ho, gs_or0]; exact h.set0 ho
  · have h2 := (h.set0 ho).set1 ho
    rw [gs_uu] at h2
    exact h2
def gs_com (S : Nat → Int32) (k : Nat) (m : Int32) : Int32 := if m < (if 1 < S (19 + k) then S (19 + k) else 1) then 0 else 1 + (m - (if 1 < S (19 + k) then S (19 + k) else 1)) / S (11 + k)
set_option maxHeartbeats 1000000 in
set_option maxRecDepth 100000 in
theorem c_X5_comings {z n : Nat} {R : bq_RR} {I : bq_IR} {L : bq_LR} {a : Nat} {k : Nat} {m : Int32} {S : Nat → Int32} (hM : bq_Mo z n R a) (hC : bq_MC I a S) (hk : k < 8) (ht : S (51 + k) = 1) (hp : 1 ≤ S (11 + k)) : bq_FC MX5_comings z [.ref (z + a), .int (nI k), .int m] n R I L 0 0 (some (.int (gs_com S k m))) n R (I) (L) := by
  refine bq_ofI [some (.ref (z + a)), some (.int (nI k)), some (.int m), none] rfl (Nat.le_of_ble_eq_true rfl) (by decide) rfl rfl ?_
  intro A G hret
  have G : bq_Cx cX5_comings RX5 4 z (bq_rm MX5_comings 0 0) "comings" A := G
  obtain ⟨hM0, hM1, hM2, hM3, hR3, hR4, hR5⟩ := id hM
  obtain ⟨es, ep, ed⟩ := hC.2.1 k hk
  refine bq_aload_n (q := 1) G rfl dX5_comings_0 rfl ?_
  refine bq_iload_n (q := 2) G rfl dX5_comings_1 rfl ?_
  refine bq_callv (q := 5) G dX5_comings_2 rfl cl_X5_50 (c_isThere hM0 hk hC.2.2.2.2.2) rfl (by first | assumption | exact ⟨Nat.le_of_ble_eq_true rfl, rfl⟩) rfl ⟨Nat.le_of_ble_eq_true rfl, Nat.le_of_ble_eq_true rfl⟩ (Nat.le_of_ble_eq_true rfl) ⟨Nat.le_of_ble_eq_true rfl, Nat.le_of_ble_eq_true rfl⟩ rfl ?_
  first | refine bq_ifb_eq (t := 18) (q := 8) G dX5_comings_5 (by decide) rfl (fun c5 => ?_) (fun c5 => ?_) | refine bq_if_eq (t := 18) (q := 8) G dX5_comings_5 (by decide) rfl (fun c5 => ?_) (fun c5 => ?_)
  · exact absurd ht c5
  · refine bq_aload_n (q := 9) G rfl dX5_comings_8 rfl ?_
    refine bq_getr (q := 12) G dX5_comings_9 rfl fl_X5_15 (by first | assumption | exact ⟨Nat.le_of_ble_eq_true rfl, rfl⟩) (fun _ _ _ => rfl) (by first | assumption | rfl) ?_
    refine bq_iload_n (q := 13) G rfl dX5_comings_12 rfl ?_
    refine bq_iald (q := 14) G dX5_comings_13 rfl (by first | assumption | exact ⟨Nat.le_of_ble_eq_true rfl, rfl⟩) (by first | with_reducible assumption | exact rfl | exact bq_ixa rfl (by with_reducible assumption) | exact bq_ixa rfl rfl | exact bq_ixa (by with_reducible assumption) rfl | exact bq_ixa rfl (bq_ixa (by first | rfl | with_reducible assumption) (by first | rfl | with_reducible assumption))) (by first | with_reducible assumption | omega | decide) (by decide) ?_
    refine bq_iconst (q := 15) (v := 1) G (by decide) dX5_comings_14 rfl ?_
    refine bq_icmp_ge (t := 20) (q := 18) G dX5_comings_15 (by decide) rfl (fun c15 => ?_) (fun c15 => ?_)
    · rw [ep] at c15
      refine bq_iconst (q := 21) (v := 1) G (by decide) dX5_comings_20 rfl ?_
      refine bq_aload_n (q := 22) G rfl dX5_comings_21 rfl ?_
      refine bq_getr (q := 25) G dX5_comings_22 rfl fl_X5_18 (by first | assumption | exact ⟨Nat.le_of_ble_eq_true rfl, rfl⟩) (fun _ _ _ => rfl) (by first | assumption | rfl) ?_
      refine bq_iload_n (q := 26) G rfl dX5_comings_25 rfl ?_
      refine bq_iald (q := 27) G dX5_comings_26 rfl (by first | assumption | exact ⟨Nat.le_of_ble_eq_true rfl, rfl⟩) (by first | with_reducible assumption | exact rfl | exact bq_ixa rfl (by with_reducible assumption) | exact bq_ixa rfl rfl | exact bq_ixa (by with_reducible assumption) rfl | exact bq_ixa rfl (bq_ixa (by first | rfl | with_reducible assumption) (by first | rfl | with_reducible assumption))) (by first | with_reducible assumption | omega | decide) (by decide) ?_
      refine bq_calls (q := 30) G dX5_comings_27 rfl cl_X5_70 (c_J9_max_7cf53) rfl rfl ⟨Nat.le_of_ble_eq_true rfl, Nat.le_of_ble_eq_true rfl⟩ (Nat.le_of_ble_eq_true rfl) ⟨Nat.le_of_ble_eq_true rfl, Nat.le_of_ble_eq_true rfl⟩ rfl ?_
      refine bq_istore_n (q := 31) (ls' := [_, _, _, _]) G dX5_comings_30 rfl (by decide) rfl rfl ?_
      refine bq_iload_n (q := 32) G rfl dX5_comings_31 rfl ?_
      refine bq_iload_n (q := 33) G rfl dX5_comings_32 rfl ?_
      refine bq_icmp_ge (t := 40) (q := 36) G dX5_comings_33 (by decide) rfl (fun c33 => ?_) (fun c33 => ?_)
      · refine bq_iconst (q := 41) (v := 1) G (by decide) dX5_comings_40 rfl ?_
        refine bq_iload_n (q := 42) G rfl dX5_comings_41 rfl ?_
        refine bq_iload_n (q := 43) G rfl dX5_comings_42 rfl ?_
        refine bq_isub (q := 44) G dX5_comings_43 rfl ?_
        refine bq_aload_n (q := 45) G rfl dX5_comings_44 rfl ?_
        refine bq_getr (q := 48) G dX5_comings_45 rfl fl_X5_15 (by first | assumption | exact ⟨Nat.le_of_ble_eq_true rfl, rfl⟩) (fun _ _ _ => rfl) (by first | assumption | rfl) ?_
        refine bq_iload_n (q := 49) G rfl dX5_comings_48 rfl ?_
        refine bq_iald (q := 50) G dX5_comings_49 rfl (by first | assumption | exact ⟨Nat.le_of_ble_eq_true rfl, rfl⟩) (by first | with_reducible assumption | exact rfl | exact bq_ixa rfl (by with_reducible assumption) | exact bq_ixa rfl rfl | exact bq_ixa (by with_reducible assumption) rfl | exact bq_ixa rfl (bq_ixa (by first | rfl | with_reducible assumption) (by first | rfl | with_reducible assumption))) (by first | with_reducible assumption | omega | decide) (by decide) ?_
        refine bq_idiv (q := 51) G (by rw [ep]; intro h; rw [h] at c15; exact absurd c15 (by decide)) dX5_comings_50 rfl ?_
        refine bq_iadd (q := 52) G dX5_comings_51 rfl ?_
        rw [ed] at c33
        exact bq_ri (hret _ _ dX5_comings_52) (by unfold gs_com; rw [if_neg (Int32.not_lt.mpr c33), ed, ep]) rfl rfl
      · refine bq_iconst (q := 37) (v := 0) G (by decide) dX5_comings_36 rfl ?_
        refine bq_goto (q := 52) G dX5_comings_37 (by decide) ?_
        rw [ed] at c33
        exact bq_ri (hret _ _ dX5_comings_52) (by unfold gs_com; rw [if_pos (Int32.not_le.mp c33)]) rfl rfl
    · rw [ep] at c15
      exact absurd hp c15
set_option maxHeartbeats 1000000 in
set_option maxRecDepth 100000 in
theorem c_X5_place {z n : Nat} {R : bq_RR} {I : bq_IR} {L : bq_LR} {a : Nat} {k : Nat} {u v w : Int32} {S : Nat → Int32} (hM : bq_Mo z n R a) (hC : bq_MC I a S) (hk : k < 8) : bq_FV MX5_place z [.ref (z + a), .int (nI k), .int u, .int v, .int w] n R I L (fun J L' => (bq_MC J a (upd (upd (upd (upd S (3 + k) u) (11 + k) v) (19 + k) w) (51 + k) 1) ∧ J a 0 = I a 0 ∧ J a 2 = I a 2 ∧ J a 10 = I a 10 ∧ J a 11 = I a 11) ∧ (∀ x, (x < a ∨ a + 3 < x) → J x = I x) ∧ L' = L) := by
  refine bq_FVof [some (.ref (z + a)), some (.int (nI k)), some (.int u), some (.int v), some (.int w)] rfl (Nat.le_of_ble_eq_true rfl) (by decide) rfl ?_
  intro A G hret
  have G : bq_Cx cX5_place RX5 5 z (bq_rm MX5_place 0 0) "place" A := G
  obtain ⟨hM0, hM1, hM2, hM3, hR3, hR4, hR5⟩ := id hM
  refine bq_iload_n (q := 1) G rfl dX5_place_0 rfl ?_
  refine bq_if_lt_f (q := 4) (t := 10) G dX5_place_1 rfl (by decide) (nI_pos (by omega)) ?_
  refine bq_iload_n (q := 5) G rfl dX5_place_4 rfl ?_
  refine bq_bipush (q := 7) (v := 8) G (by decide) dX5_place_5 rfl ?_
  refine bq_icmp_lt_t (t := 11) G dX5_place_7 (by decide) (nI_lt (b := 8) hk (by decide)) ?_
  refine bq_aload_n (q := 12) G rfl dX5_place_11 rfl ?_
  refine bq_getr (q := 15) G dX5_place_12 rfl fl_X5_9 (by first | assumption | exact ⟨Nat.le_of_ble_eq_true rfl, rfl⟩) (fun _ _ _ => rfl) (by first | assumption | rfl) ?_
  refine bq_iload_n (q := 16) G rfl dX5_place_15 rfl ?_
  refine bq_iload_n (q := 17) G rfl dX5_place_16 rfl ?_
  refine bq_iast (q := 18) G dX5_place_17 rfl (by first | assumption | exact ⟨Nat.le_of_ble_eq_true rfl, rfl⟩) (by first | with_reducible assumption | exact rfl | exact bq_ixa rfl (by with_reducible assumption) | exact bq_ixa rfl rfl | exact bq_ixa (by with_reducible assumption) rfl | exact bq_ixa rfl (bq_ixa (by first | rfl | with_reducible assumption) (by first | rfl | with_reducible assumption))) (by first | with_reducible assumption | omega | decide) (by decide) ?_
  refine bq_aload_n (q := 19) G rfl dX5_place_18 rfl ?_
  refine bq_getr (q := 22) G dX5_place_19 rfl fl_X5_15 (by first | assumption | exact ⟨Nat.le_of_ble_eq_true rfl, rfl⟩) (fun _ _ _ => rfl) (by first | assumption | rfl) ?_
  refine bq_iload_n (q := 23) G rfl dX5_place_22 rfl ?_
  refine bq_iload_n (q := 24) G rfl dX5_place_23 rfl ?_
  refine bq_iast (q := 25) G dX5_place_24 rfl (by first | assumption | exact ⟨Nat.le_of_ble_eq_true rfl, rfl⟩) (by first | with_reducible assumption | exact rfl | exact bq_ixa rfl (by with_reducible assumption) | exact bq_ixa rfl rfl | exact bq_ixa (by with_reducible assumption) rfl | exact bq_ixa rfl (bq_ixa (by first | rfl | with_reducible assumption) (by first | rfl | with_reducible assumption))) (by first | with_reducible assumption | omega | decide) (by decide) ?_
  refine bq_aload_n (q := 26) G rfl dX5_place_25 rfl ?_
  refine bq_getr (q := 29) G dX5_place_26 rfl fl_X5_18 (by first | assumption | exact ⟨Nat.le_of_ble_eq_true rfl, rfl⟩) (fun _ _ _ => rfl) (by first | assumption | rfl) ?_
  refine bq_iload_n (q := 30) G rfl dX5_place_29 rfl ?_
  refine bq_iload (q := 32) G rfl dX5_place_30 rfl ?_
  refine bq_iast (q := 33) G dX5_place_32 rfl (by first | assumption | exact ⟨Nat.le_of_ble_eq_true rfl, rfl⟩) (by first | with_reducible assumption | exact rfl | exact bq_ixa rfl (by with_reducible assumption) | exact bq_ixa rfl rfl | exact bq_ixa (by with_reducible assumption) rfl | exact bq_ixa rfl (bq_ixa (by first | rfl | with_reducible assumption) (by first | rfl | with_reducible assumption))) (by first | with_reducible assumption | omega | decide) (by decide) ?_
  refine bq_aload_n (q := 34) G rfl dX5_place_33 rfl ?_
  refine bq_dup (q := 35) G rfl dX5_place_34 rfl ?_
  refine bq_geti (q := 38) G dX5_place_35 rfl fl_X5_40 (by first | assumption | exact ⟨Nat.le_of_ble_eq_true rfl, rfl⟩) rfl ?_
  refine bq_iconst (q := 39) (v := 1) G (by decide) dX5_place_38 rfl ?_
  refine bq_iload_n (q := 40) G rfl dX5_place_39 rfl ?_
  refine bq_ishl (q := 41) G dX5_place_40 rfl ?_
  refine bq_ior (q := 42) G dX5_place_41 rfl ?_
  refine bq_puti (q := 45) G dX5_place_42 rfl fl_X5_40 (by first | assumption | exact ⟨Nat.le_of_ble_eq_true rfl, rfl⟩) rfl rfl ?_
  have m3 := ((hC.size hk u).pace hk v).due hk w
  refine hret _ _ _ _ dX5_place_45 ⟨⟨m3.there (m3.2.2.2.2.2.set1 hk) (fun j hj => pk_un (by omega)), ?_, ?_, ?_, ?_⟩, ?_, rfl⟩
  · simp [bq_sr, upd]
  · simp [bq_sr, upd]
  · simp [bq_sr, upd]
  · simp [bq_sr, upd]
  · intro x hx
    simp only [bq_sr]
    (repeat' split) <;> first | rfl | omega
end
section
theorem gs_F.like2 {S : Nat → Int32} {f : Nat} {w v : Int32} (h : gs_F S f w) {k o : Nat} (hk : k < 8) (ho : o < 8) (hv : S (f + k) = v) : gs_F (upd S (f + o) v) f ((w &&& ((1 <<< (nI o &&& 31)) ^^^ (-1))) ||| ((w >>> (nI k &&& 31) &&& 1) <<< (nI o &&& 31))) := hv ▸ h.like hk ho
def gs_s1 (k : Nat) (S : Nat → Int32) : Nat → Int32 := upd (upd S (3 + k) (S (3 + k) / 2)) (11 + k) (if 40 < 2 * S (11 + k) then 40 else 2 * S (11 + k))
def gs_c7 (o k : Nat) : Nat → (Nat → Int32) → Nat → Int32
  | 0, S => S
  | q + 1, S => upd (gs_c7 o k q S) (3 + 8 * q + o) (gs_c7 o k q S (3 + 8 * q + k))
def gs_o (S : Nat → Int32) : Nat := (gs_fk S 8 0).toNatClampNeg
def gs_sp (k : Nat) (S : Nat → Int32) : Nat → Int32 := if S (3 + k) = 1 then upd S (51 + k) 0 else gs_c7 (gs_o S) k 7 (gs_s1 k S)
def gs_spr (k : Nat) (S : Nat → Int32) : Int32 := if S (3 + k) = 1 then -9 else gs_fk S 8 0
theorem gs_c7_out {o k : Nat} (ho : o < 8) {S : Nat → Int32} : ∀ (q j : Nat), (∀ i, i < q → j ≠ 3 + 8 * i + o) → gs_c7 o k q S j = S j
  | 0, j, _ => rfl
  | q + 1, j, h => by
    unfold gs_c7
    rw [pk_un (h q (by omega))]
    exact gs_c7_out ho q j (fun i hi => h i (by omega))
theorem gs_c7_in {o k : Nat} (ho : o < 8) (hk : k < 8) (hok : o ≠ k) {S : Nat → Int32} : ∀ (q i : Nat), i < q → gs_c7 o k q S (3 + 8 * i + o) = S (3 + 8 * i + k)
  | 0, i, h => by omega
  | q + 1, i, h => by
    unfold gs_c7
    by_cases e : i = q
    · subst e
      rw [pk_us]
      exact gs_c7_out ho i _ (fun i' hi' => by omega)
    · rw [pk_un (by omega)]
      exact gs_c7_in ho hk hok q i (by omega)
theorem gs_split_row {S : Nat → Int32} {o k : Nat} (ho : o < 8) (hk : k < 8) (hok : o ≠ k) (h51 : S (51 + k) = 1) (j : Nat) : gs_c7 o k 7 S j = upd (upd (upd (upd (upd (upd (upd S (3 + o) (S (3 + k))) (11 + o) (S (11 + k))) (19 + o) (S (19 + k))) (51 + o) 1) (27 + o) (S (27 + k))) (35 + o) (S (35 + k))) (43 + o) (S (43 + k)) j := by
  by_cases h0 : j = 3 + o
  · subst h0
    rw [pk_un (by omega), pk_un (by omega), pk_un (by omega), pk_un (by omega), pk_un (by omega), pk_un (by omega), pk_us]
    exact gs_c7_in ho hk hok 7 0 (by omega)
  by_cases h1 : j = 11 + o
  · subst h1
    rw [pk_un (by omega), pk_un (by omega), pk_un (by omega), pk_un (by omega), pk_un (by omega), pk_us]
    exact gs_c7_in ho hk hok 7 1 (by omega)
  by_cases h2 : j = 19 + o
  · subst h2
    rw [pk_un (by omega), pk_un (by omega), pk_un (by omega), pk_un (by omega), pk_us]
    exact gs_c7_in ho hk hok 7 2 (by omega)
  by_cases h6 : j = 51 + o
  · subst h6
    rw [pk_un (by omega), pk_un (by omega), pk_un (by omega), pk_us]
    exact (gs_c7_in ho hk hok 7 6 (by omega)).trans h51
  by_cases h3 : j = 27 + o
  · subst h3
    rw [pk_un (by omega), pk_un (by omega), pk_us]
    exact gs_c7_in ho hk hok 7 3 (by omega)
  by_cases h4 : j = 35 + o
  · subst h4
    rw [pk_un (by omega), pk_us]
    exact gs_c7_in ho hk hok 7 4 (by omega)
  by_cases h5 : j = 43 + o
  · subst h5
    rw [pk_us]
    exact gs_c7_in ho hk hok 7 5 (by omega)
  rw [pk_un h5, pk_un h4, pk_un h3, pk_un h6, pk_un h2, pk_un h1, pk_un h0]
  exact gs_c7_out ho 7 j (fun i hi => by omega)
theorem gs_min40 (y : Int32) : (if y < 40 then y else 40) = if 40 < y then 40 else y := by
  by_cases h : y < 40
  · rw [if_pos h, if_neg (fun h2 => by simp only [Int32.lt_iff_toInt_lt] at *; omega)]
  · rw [if_neg h]
    split
    · rfl
    · rename_i h2
      exact Int32.le_antisymm (Int32.not_lt.mp h) (Int32.not_lt.mp h2)
set_option maxHeartbeats 1000000 in
set_option maxRecDepth 100000 in
theorem c_X5_split {z n : Nat} {R : bq_RR} {I : bq_IR} {L : bq_LR} {a : Nat} {k : Nat} {S : Nat → Int32} (hM : bq_Mo z n R a) (hC : bq_MC I a S) (hk : k < 8) (hcan : S (51 + k) = 1 ∧ (S (3 + k) ≤ 1 ∨ 0 ≤ gs_fk S 8 0)) (hpos : 1 ≤ S (3 + k)) : bq_FI MX5_split z [.ref (z + a), .int (nI k)] n R I L (fun r J L' => r = gs_spr k S ∧ (bq_MC J a (gs_sp k S) ∧ J a 0 = I a 0 ∧ J a 2 = I a 2 ∧ J a 10 = I a 10 ∧ J a 11 = I a 11) ∧ (∀ x, (x < a ∨ a + 3 < x) → J x = I x) ∧ L' = L) := by
  refine bq_FIof [some (.ref (z + a)), some (.int (nI k)), none] rfl (Nat.le_of_ble_eq_true rfl) (by decide) rfl (fun _ _ _ _ => rfl) ?_
  intro A G hret
  have G : bq_Cx cX5_split RX5 3 z (bq_rm MX5_split 0 0) "split" A := G
  obtain ⟨hM0, hM1, hM2, hM3, hR3, hR4, hR5⟩ := id hM
  have es := (hC.2.1 k hk).1
  refine bq_aload_n (q := 1) G rfl dX5_split_0 rfl ?_
  refine bq_iload_n (q := 2) G rfl dX5_split_1 rfl ?_
  refine bq_callv (q := 5) G dX5_split_2 rfl cl_X5_78 (c_X5_canSplit hM hC hk) rfl (by first | assumption | exact ⟨Nat.le_of_ble_eq_true rfl, rfl⟩) rfl ⟨Nat.le_of_ble_eq_true rfl, Nat.le_of_ble_eq_true rfl⟩ (Nat.le_of_ble_eq_true rfl) ⟨Nat.le_of_ble_eq_true rfl, Nat.le_of_ble_eq_true rfl⟩ rfl ?_
  first | refine bq_ifb_ne (t := 11) (q := 8) G dX5_split_5 (by decide) rfl (fun c5 => ?_) (fun c5 => ?_) | refine bq_if_ne (t := 11) (q := 8) G dX5_split_5 (by decide) rfl (fun c5 => ?_) (fun c5 => ?_)
  · refine bq_aload_n (q := 12) G rfl dX5_split_11 rfl ?_
    refine bq_getr (q := 15) G dX5_split_12 rfl fl_X5_9 (by first | assumption | exact ⟨Nat.le_of_ble_eq_true rfl, rfl⟩) (fun _ _ _ => rfl) (by first | assumption | rfl) ?_
    refine bq_iload_n (q := 16) G rfl dX5_split_15 rfl ?_
    refine bq_iald (q := 17) G dX5_split_16 rfl (by first | assumption | exact ⟨Nat.le_of_ble_eq_true rfl, rfl⟩) (by first | with_reducible assumption | exact rfl | exact bq_ixa rfl (by with_reducible assumption) | exact bq_ixa rfl rfl | exact bq_ixa (by with_reducible assumption) rfl | exact bq_ixa rfl (bq_ixa (by first | rfl | with_reducible assumption) (by first | rfl | with_reducible assumption))) (by first | with_reducible assumption | omega | decide) (by decide) ?_
    refine bq_iconst (q := 18) (v := 1) G (by decide) dX5_split_17 rfl ?_
    refine bq_icmp_gt (t := 38) (q := 21) G dX5_split_18 (by decide) rfl (fun c18 => ?_) (fun c18 => ?_)
    · rw [es] at c18
      have hne : ¬ S (3 + k) = 1 := fun h => by rw [h] at c18; exact absurd c18 (by decide)
      have hfr : 0 ≤ gs_fk S 8 0 := hcan.2.elim (fun h => absurd h (Int32.not_le.mpr c18)) id
      obtain ⟨o, ho, hfo, h51o⟩ : ∃ o, o < 8 ∧ gs_fk S 8 0 = nI o ∧ S (51 + o) = 0 := by
        rcases gs_fk_or S 8 0 with h | ⟨o, -, h2, h3, h4⟩
        · rw [h] at hfr; exact absurd hfr (by decide)
        · exact ⟨o, by omega, h3, h4⟩
      have hok : o ≠ k := fun e => by rw [e, hcan.1] at h51o; exact absurd h51o (by decide)
      have hoS : gs_o S = o := by unfold gs_o; rw [hfo]; exact nI_clamp (by omega)
      refine bq_aload_n (q := 39) G rfl dX5_split_38 rfl ?_
      refine bq_callv (q := 42) G dX5_split_39 rfl cl_X5_74 (c_X5_firstFree hM0 hC.2.2.2.2.2) rfl (by first | assumption | exact ⟨Nat.le_of_ble_eq_true rfl, rfl⟩) rfl ⟨Nat.le_of_ble_eq_true rfl, Nat.le_of_ble_eq_true rfl⟩ (Nat.le_of_ble_eq_true rfl) ⟨Nat.le_of_ble_eq_true rfl, Nat.le_of_ble_eq_true rfl⟩ rfl ?_
      refine bq_top (congrArg Value.int (hfo)) ?_
      refine bq_istore_n (q := 43) (ls' := [_, _, _]) G dX5_split_42 rfl (by decide) rfl rfl ?_
      refine bq_aload_n (q := 44) G rfl dX5_split_43 rfl ?_
      refine bq_getr (q := 47) G dX5_split_44 rfl fl_X5_9 (by first | assumption | exact ⟨Nat.le_of_ble_eq_true rfl, rfl⟩) (fun _ _ _ => rfl) (by first | assumption | rfl) ?_
      refine bq_iload_n (q := 48) G rfl dX5_split_47 rfl ?_
      refine bq_aload_n (q := 49) G rfl dX5_split_48 rfl ?_
      refine bq_getr (q := 52) G dX5_split_49 rfl fl_X5_9 (by first | assumption | exact ⟨Nat.le_of_ble_eq_true rfl, rfl⟩) (fun _ _ _ => rfl) (by first | assumption | rfl) ?_
      refine bq_iload_n (q := 53) G rfl dX5_split_52 rfl ?_
      refine bq_iald (q := 54) G dX5_split_53 rfl (by first | assumption | exact ⟨Nat.le_of_ble_eq_true rfl, rfl⟩) (by first | with_reducible assumption | exact rfl | exact bq_ixa rfl (by with_reducible assumption) | exact bq_ixa rfl rfl | exact bq_ixa (by with_reducible assumption) rfl | exact bq_ixa rfl (bq_ixa (by first | rfl | with_reducible assumption) (by first | rfl | with_reducible assumption))) (by first | with_reducible assumption | omega | decide) (by decide) ?_
      refine bq_iconst (q := 55) (v := 2) G (by decide) dX5_split_54 rfl ?_
      refine bq_idiv (q := 56) G (by decide) dX5_split_55 rfl ?_
      refine bq_iast (q := 57) G dX5_split_56 rfl (by first | assumption | exact ⟨Nat.le_of_ble_eq_true rfl, rfl⟩) (by first | with_reducible assumption | exact rfl | exact bq_ixa rfl (by with_reducible assumption) | exact bq_ixa rfl rfl | exact bq_ixa (by with_reducible assumption) rfl | exact bq_ixa rfl (bq_ixa (by first | rfl | with_reducible assumption) (by first | rfl | with_reducible assumption))) (by first | with_reducible assumption | omega | decide) (by decide) ?_
      refine bq_aload_n (q := 58) G rfl dX5_split_57 rfl ?_
      refine bq_getr (q := 61) G dX5_split_58 rfl fl_X5_15 (by first | assumption | exact ⟨Nat.le_of_ble_eq_true rfl, rfl⟩) (fun _ _ _ => rfl) (by first | assumption | rfl) ?_
      refine bq_iload_n (q := 62) G rfl dX5_split_61 rfl ?_
      refine bq_bipush (q := 64) (v := 40) G (by decide) dX5_split_62 rfl ?_
      refine bq_iconst (q := 65) (v := 2) G (by decide) dX5_split_64 rfl ?_
      refine bq_aload_n (q := 66) G rfl dX5_split_65 rfl ?_
      refine bq_getr (q := 69) G dX5_split_66 rfl fl_X5_15 (by first | assumption | exact ⟨Nat.le_of_ble_eq_true rfl, rfl⟩) (fun _ _ _ => rfl) (by first | assumption | rfl) ?_
      refine bq_iload_n (q := 70) G rfl dX5_split_69 rfl ?_
      refine bq_iald (q := 71) G dX5_split_70 rfl (by first | assumption | exact ⟨Nat.le_of_ble_eq_true rfl, rfl⟩) (by first | with_reducible assumption | exact rfl | exact bq_ixa rfl (by with_reducible assumption) | exact bq_ixa rfl rfl | exact bq_ixa (by with_reducible assumption) rfl | exact bq_ixa rfl (bq_ixa (by first | rfl | with_reducible assumption) (by first | rfl | with_reducible assumption))) (by first | with_reducible assumption | omega | decide) (by decide) ?_
      refine bq_imul (q := 72) G dX5_split_71 rfl ?_
      refine bq_calls (q := 75) G dX5_split_72 rfl cl_X5_58 (c_J9_min_7cf53) rfl rfl ⟨Nat.le_of_ble_eq_true rfl, Nat.le_of_ble_eq_true rfl⟩ (Nat.le_of_ble_eq_true rfl) ⟨Nat.le_of_ble_eq_true rfl, Nat.le_of_ble_eq_true rfl⟩ rfl ?_
      refine bq_iast (q := 76) G dX5_split_75 rfl (by first | assumption | exact ⟨Nat.le_of_ble_eq_true rfl, rfl⟩) (by first | with_reducible assumption | exact rfl | exact bq_ixa rfl (by with_reducible assumption) | exact bq_ixa rfl rfl | exact bq_ixa (by with_reducible assumption) rfl | exact bq_ixa rfl (bq_ixa (by first | rfl | with_reducible assumption) (by first | rfl | with_reducible assumption))) (by first | with_reducible assumption | omega | decide) (by decide) ?_
      refine bq_aload_n (q := 77) G rfl dX5_split_76 rfl ?_
      refine bq_iload_n (q := 78) G rfl dX5_split_77 rfl ?_
      refine bq_aload_n (q := 79) G rfl dX5_split_78 rfl ?_
      refine bq_getr (q := 82) G dX5_split_79 rfl fl_X5_9 (by first | assumption | exact ⟨Nat.le_of_ble_eq_true rfl, rfl⟩) (fun _ _ _ => rfl) (by first | assumption | rfl) ?_
      refine bq_iload_n (q := 83) G rfl dX5_split_82 rfl ?_
      refine bq_iald (q := 84) G dX5_split_83 rfl (by first | assumption | exact ⟨Nat.le_of_ble_eq_true rfl, rfl⟩) (by first | with_reducible assumption | exact rfl | exact bq_ixa rfl (by with_reducible assumption) | exact bq_ixa rfl rfl | exact bq_ixa (by with_reducible assumption) rfl | exact bq_ixa rfl (bq_ixa (by first | rfl | with_reducible assumption) (by first | rfl | with_reducible assumption))) (by first | with_reducible assumption | omega | decide) (by decide) ?_
      refine bq_aload_n (q := 85) G rfl dX5_split_84 rfl ?_
      refine bq_getr (q := 88) G dX5_split_85 rfl fl_X5_15 (by first | assumption | exact ⟨Nat.le_of_ble_eq_true rfl, rfl⟩) (fun _ _ _ => rfl) (by first | assumption | rfl) ?_
      refine bq_iload_n (q := 89) G rfl dX5_split_88 rfl ?_
      refine bq_iald (q := 90) G dX5_split_89 rfl (by first | assumption | exact ⟨Nat.le_of_ble_eq_true rfl, rfl⟩) (by first | with_reducible assumption | exact rfl | exact bq_ixa rfl (by with_reducible assumption) | exact bq_ixa rfl rfl | exact bq_ixa (by with_reducible assumption) rfl | exact bq_ixa rfl (bq_ixa (by first | rfl | with_reducible assumption) (by first | rfl | with_reducible assumption))) (by first | with_reducible assumption | omega | decide) (by decide) ?_
      refine bq_aload_n (q := 91) G rfl dX5_split_90 rfl ?_
      refine bq_getr (q := 94) G dX5_split_91 rfl fl_X5_18 (by first | assumption | exact ⟨Nat.le_of_ble_eq_true rfl, rfl⟩) (fun _ _ _ => rfl) (by first | assumption | rfl) ?_
      refine bq_iload_n (q := 95) G rfl dX5_split_94 rfl ?_
      refine bq_iald (q := 96) G dX5_split_95 rfl (by first | assumption | exact ⟨Nat.le_of_ble_eq_true rfl, rfl⟩) (by first | with_reducible assumption | exact rfl | exact bq_ixa rfl (by with_reducible assumption) | exact bq_ixa rfl rfl | exact bq_ixa (by with_reducible assumption) rfl | exact bq_ixa rfl (bq_ixa (by first | rfl | with_reducible assumption) (by first | rfl | with_reducible assumption))) (by first | with_reducible assumption | omega | decide) (by decide) ?_
      have m1 := hC.size hk (I (a + 1) k / 2)
      have m2 := m1.pace hk (if 2 * bq_sr I (a + 1) (upd (I (a + 1)) k (I (a + 1) k / 2)) (a + 2) k < 40 then 2 * bq_sr I (a + 1) (upd (I (a + 1)) k (I (a + 1) k / 2)) (a + 2) k else 40)
      obtain ⟨u1, u2, u3⟩ := m2.2.1 k hk
      have eS : upd (upd S (3 + k) (I (a + 1) k / 2)) (11 + k) (if 2 * bq_sr I (a + 1) (upd (I (a + 1)) k (I (a + 1) k / 2)) (a + 2) k < 40 then 2 * bq_sr I (a + 1) (upd (I (a + 1)) k (I (a + 1) k / 2)) (a + 2) k else 40) = gs_s1 k S := by
        unfold gs_s1
        rw [(m1.2.1 k hk).2.1, pk_un (by omega), gs_min40, es]
      rw [eS] at m2 u1 u2 u3
      refine bq_callvV (q := 99) G dX5_split_96 rfl cl_X5_81 (c_X5_place hM m2 ho) rfl (by first | assumption | exact ⟨Nat.le_of_ble_eq_true rfl, rfl⟩) rfl ⟨Nat.le_of_ble_eq_true rfl, Nat.le_of_ble_eq_true rfl⟩ (Nat.le_of_ble_eq_true rfl) ⟨Nat.le_of_ble_eq_true rfl, Nat.le_of_ble_eq_true rfl⟩ (fun I96 L96 h96 => ?_)
      obtain ⟨⟨mc, e0, e2, e10, e11⟩, fr, rfl⟩ := h96
      rw [u1, u2, u3] at mc
      have m5 := mc.out (mc.2.2.1.like2 (v := gs_s1 k S (27 + k)) hk ho (by rw [pk_un (by omega), pk_un (by omega), pk_un (by omega), pk_un (by omega)])) (fun j hj => pk_un (by omega))
      have m6 := m5.bored (m5.2.2.2.1.like2 (v := gs_s1 k S (35 + k)) hk ho (by rw [pk_un (by omega), pk_un (by omega), pk_un (by omega), pk_un (by omega), pk_un (by omega)])) (fun j hj => pk_un (by omega))
      have m7 := m6.wet (m6.2.2.2.2.1.like2 (v := gs_s1 k S (43 + k)) hk ho (by rw [pk_un (by omega), pk_un (by omega), pk_un (by omega), pk_un (by omega), pk_un (by omega), pk_un (by omega)])) (fun j hj => pk_un (by omega))
      refine bq_aload_n (q := 100) G rfl dX5_split_99 rfl ?_
      refine bq_aload_n (q := 101) G rfl dX5_split_100 rfl ?_
      refine bq_geti (q := 104) G dX5_split_101 rfl fl_X5_31 (by first | assumption | exact ⟨Nat.le_of_ble_eq_true rfl, rfl⟩) rfl ?_
      refine bq_iload_n (q := 105) G rfl dX5_split_104 rfl ?_
      refine bq_iload_n (q := 106) G rfl dX5_split_105 rfl ?_
      refine bq_calls (q := 109) G dX5_split_106 rfl cl_X5_85 (c_X5_alike) rfl rfl ⟨Nat.le_of_ble_eq_true rfl, Nat.le_of_ble_eq_true rfl⟩ (Nat.le_of_ble_eq_true rfl) ⟨Nat.le_of_ble_eq_true rfl, Nat.le_of_ble_eq_true rfl⟩ rfl ?_
      refine bq_puti (q := 112) G dX5_split_109 rfl fl_X5_31 (by first | assumption | exact ⟨Nat.le_of_ble_eq_true rfl, rfl⟩) rfl rfl ?_
      refine bq_aload_n (q := 113) G rfl dX5_split_112 rfl ?_
      refine bq_aload_n (q := 114) G rfl dX5_split_113 rfl ?_
      refine bq_geti (q := 117) G dX5_split_114 rfl fl_X5_34 (by first | assumption | exact ⟨Nat.le_of_ble_eq_true rfl, rfl⟩) rfl ?_
      refine bq_iload_n (q := 118) G rfl dX5_split_117 rfl ?_
      refine bq_iload_n (q := 119) G rfl dX5_split_118 rfl ?_
      refine bq_calls (q := 122) G dX5_split_119 rfl cl_X5_85 (c_X5_alike) rfl rfl ⟨Nat.le_of_ble_eq_true rfl, Nat.le_of_ble_eq_true rfl⟩ (Nat.le_of_ble_eq_true rfl) ⟨Nat.le_of_ble_eq_true rfl, Nat.le_of_ble_eq_true rfl⟩ rfl ?_
      refine bq_puti (q := 125) G dX5_split_122 rfl fl_X5_34 (by first | assumption | exact ⟨Nat.le_of_ble_eq_true rfl, rfl⟩) rfl rfl ?_
      refine bq_aload_n (q := 126) G rfl dX5_split_125 rfl ?_
      refine bq_aload_n (q := 127) G rfl dX5_split_126 rfl ?_
      refine bq_geti (q := 130) G dX5_split_127 rfl fl_X5_37 (by first | assumption | exact ⟨Nat.le_of_ble_eq_true rfl, rfl⟩) rfl ?_
      refine bq_iload_n (q := 131) G rfl dX5_split_130 rfl ?_
      refine bq_iload_n (q := 132) G rfl dX5_split_131 rfl ?_
      refine bq_calls (q := 135) G dX5_split_132 rfl cl_X5_85 (c_X5_alike) rfl rfl ⟨Nat.le_of_ble_eq_true rfl, Nat.le_of_ble_eq_true rfl⟩ (Nat.le_of_ble_eq_true rfl) ⟨Nat.le_of_ble_eq_true rfl, Nat.le_of_ble_eq_true rfl⟩ rfl ?_
      refine bq_puti (q := 138) G dX5_split_135 rfl fl_X5_37 (by first | assumption | exact ⟨Nat.le_of_ble_eq_true rfl, rfl⟩) rfl rfl ?_
      refine bq_iload_n (q := 139) G rfl dX5_split_138 rfl ?_
      refine hret _ _ _ _ _ dX5_split_139 ⟨?_, ⟨m7.row (fun j _ _ _ => ?_), ?_, ?_, ?_, ?_⟩, ?_, rfl⟩
      · unfold gs_spr; rw [if_neg hne, hfo]
      · unfold gs_sp
        have h51 : gs_s1 k S (51 + k) = 1 := by unfold gs_s1; rw [pk_un (by omega), pk_un (by omega)]; exact hcan.1
        rw [if_neg hne, hoS, gs_split_row ho hk hok h51]
      · rw [bq_sru, if_neg (by decide), bq_sru, if_neg (by decide), bq_sru, if_neg (by decide), e0, bq_srn1 (by omega), bq_srn1 (by omega)]
      · rw [bq_sru, if_neg (by decide), bq_sru, if_neg (by decide), bq_sru, if_neg (by decide), e2, bq_srn1 (by omega), bq_srn1 (by omega)]
      · rw [bq_sru, if_neg (by decide), bq_sru, if_neg (by decide), bq_sru, if_neg (by decide), e10, bq_srn1 (by omega), bq_srn1 (by omega)]
      · rw [bq_sru, if_neg (by decide), bq_sru, if_neg (by decide), bq_sru, if_neg (by decide), e11, bq_srn1 (by omega), bq_srn1 (by omega)]
      · intro x hx
        rw [bq_sr_n (by omega), bq_sr_n (by omega), bq_sr_n (by omega), fr x hx, bq_sr_n (by omega), bq_sr_n (by omega)]
    · rw [es] at c18
      have h1 : S (3 + k) = 1 := Int32.le_antisymm (Int32.not_lt.mp c18) hpos
      refine bq_aload_n (q := 22) G rfl dX5_split_21 rfl ?_
      refine bq_dup (q := 23) G rfl dX5_split_22 rfl ?_
      refine bq_geti (q := 26) G dX5_split_23 rfl fl_X5_40 (by first | assumption | exact ⟨Nat.le_of_ble_eq_true rfl, rfl⟩) rfl ?_
      refine bq_iconst (q := 27) (v := 1) G (by decide) dX5_split_26 rfl ?_
      refine bq_iload_n (q := 28) G rfl dX5_split_27 rfl ?_
      refine bq_ishl (q := 29) G dX5_split_28 rfl ?_
      refine bq_iconst (q := 30) (v := -1) G (by decide) dX5_split_29 rfl ?_
      refine bq_ixor (q := 31) G dX5_split_30 rfl ?_
      refine bq_iand (q := 32) G dX5_split_31 rfl ?_
      refine bq_puti (q := 35) G dX5_split_32 rfl fl_X5_40 (by first | assumption | exact ⟨Nat.le_of_ble_eq_true rfl, rfl⟩) rfl rfl ?_
      refine bq_bipush (q := 37) (v := -9) G (by decide) dX5_split_35 rfl ?_
      refine hret _ _ _ _ _ dX5_split_37 ⟨?_, ⟨?_, ?_, ?_, ?_, ?_⟩, ?_, rfl⟩
      · unfold gs_spr; rw [if_pos h1]
      · unfold gs_sp; rw [if_pos h1]
        exact hC.there (hC.2.2.2.2.2.set0 hk) (fun j hj => pk_un (by omega))
      · simp [bq_sr, upd]
      · simp [bq_sr, upd]
      · simp [bq_sr, upd]
      · simp [bq_sr, upd]
      · intro x hx
        rw [bq_sr_n (by omega)]
  · exact absurd hcan c5
set_option maxHeartbeats 1000000 in
set_option maxRecDepth 100000 in
theorem c_X5_copyFrom {z n : Nat} {R : bq_RR} {I : bq_IR} {L : bq_LR} {a : Nat} {o : Nat} {S : Nat → Int32} (hM : bq_Mo z n R a) (hO : bq_Mo z n R o) (hao : a + 3 < o ∨ o + 3 < a) (hC : bq_MC I o S) : bq_FV MX5_copyFrom z [.ref (z + a), .ref (z + o)] n R I L (fun J L' => (bq_MC J a S ∧ J a 0 = I o 0 ∧ J a 2 = I o 2) ∧ (∀ x, (x < a ∨ a + 3 < x) → J x = I x) ∧ L' = L) := by
  refine bq_FVof [some (.ref (z + a)), some (.ref (z + o)), none] rfl (Nat.le_of_ble_eq_true rfl) (by decide) rfl ?_
  intro A G hret
  have G : bq_Cx cX5_copyFrom RX5 3 z (bq_rm MX5_copyFrom 0 0) "copyFrom" A := G
  obtain ⟨hM0, hM1, hM2, hM3, hR3, hR4, hR5⟩ := id hM
  obtain ⟨hO0, hO1, hO2, hO3, hQ3, hQ4, hQ5⟩ := id hO
  have loop : ∀ k, k ≤ 8 → ∀ J : bq_IR, ((J a 0 = I o 0 ∧ J a 1 = I o 1 ∧ J a 2 = I o 2) ∧ (∀ b, b < k → J (a + 1) b = I (o + 1) b ∧ J (a + 2) b = I (o + 2) b ∧ J (a + 3) b = I (o + 3) b) ∧ ∀ x, (x < a ∨ a + 3 < x) → J x = I x) → A 0 0 26 [some (.ref (z + a)), some (.ref (z + o)), some (.int (nI k))] [] n R J L := by
    refine bq_down 8 ?_
    intro k hk ih J hJ
    obtain ⟨⟨j0, j1, j2⟩, jb, jf⟩ := hJ
    rcases Nat.lt_or_ge k 8 with hk8 | hk8
    · refine bq_iload_n (q := 27) G rfl dX5_copyFrom_26 rfl ?_
      refine bq_bipush (q := 29) (v := 8) G (by decide) dX5_copyFrom_27 rfl ?_
      refine bq_icmp_ge_f (q := 32) (t := 74) G dX5_copyFrom_29 rfl (by decide) (nI_ge (a := k) (b := 8) hk8 (by decide)) ?_
      refine bq_aload_n (q := 33) G rfl dX5_copyFrom_32 rfl ?_
      refine bq_getr (q := 36) G dX5_copyFrom_33 rfl fl_X5_9 (by first | assumption | exact ⟨Nat.le_of_ble_eq_true rfl, rfl⟩) (fun _ _ _ => rfl) (by first | assumption | rfl) ?_
      refine bq_iload_n (q := 37) G rfl dX5_copyFrom_36 rfl ?_
      refine bq_aload_n (q := 38) G rfl dX5_copyFrom_37 rfl ?_
      refine bq_getr (q := 41) G dX5_copyFrom_38 rfl fl_X5_9 (by first | assumption | exact ⟨Nat.le_of_ble_eq_true rfl, rfl⟩) (fun _ _ _ => rfl) (by first | assumption | rfl) ?_
      refine bq_iload_n (q := 42) G rfl dX5_copyFrom_41 rfl ?_
      refine bq_iald (q := 43) G dX5_copyFrom_42 rfl (by first | assumption | exact ⟨Nat.le_of_ble_eq_true rfl, rfl⟩) (by first | with_reducible assumption | exact rfl | exact bq_ixa rfl (by with_reducible assumption) | exact bq_ixa rfl rfl | exact bq_ixa (by with_reducible assumption) rfl | exact bq_ixa rfl (bq_ixa (by first | rfl | with_reducible assumption) (by first | rfl | with_reducible assumption))) (by first | with_reducible assumption | omega | decide) (by decide) ?_
      refine bq_iast (q := 44) G dX5_copyFrom_43 rfl (by first | assumption | exact ⟨Nat.le_of_ble_eq_true rfl, rfl⟩) (by first | with_reducible assumption | exact rfl | exact bq_ixa rfl (by with_reducible assumption) | exact bq_ixa rfl rfl | exact bq_ixa (by with_reducible assumption) rfl | exact bq_ixa rfl (bq_ixa (by first | rfl | with_reducible assumption) (by first | rfl | with_reducible assumption))) (by first | with_reducible assumption | omega | decide) (by decide) ?_
      refine bq_aload_n (q := 45) G rfl dX5_copyFrom_44 rfl ?_
      refine bq_getr (q := 48) G dX5_copyFrom_45 rfl fl_X5_15 (by first | assumption | exact ⟨Nat.le_of_ble_eq_true rfl, rfl⟩) (fun _ _ _ => rfl) (by first | assumption | rfl) ?_
      refine bq_iload_n (q := 49) G rfl dX5_copyFrom_48 rfl ?_
      refine bq_aload_n (q := 50) G rfl dX5_copyFrom_49 rfl ?_
      refine bq_getr (q := 53) G dX5_copyFrom_50 rfl fl_X5_15 (by first | assumption | exact ⟨Nat.le_of_ble_eq_true rfl, rfl⟩) (fun _ _ _ => rfl) (by first | assumption | rfl) ?_
      refine bq_iload_n (q := 54) G rfl dX5_copyFrom_53 rfl ?_
      refine bq_iald (q := 55) G dX5_copyFrom_54 rfl (by first | assumption | exact ⟨Nat.le_of_ble_eq_true rfl, rfl⟩) (by first | with_reducible assumption | exact rfl | exact bq_ixa rfl (by with_reducible assumption) | exact bq_ixa rfl rfl | exact bq_ixa (by with_reducible assumption) rfl | exact bq_ixa rfl (bq_ixa (by first | rfl | with_reducible assumption) (by first | rfl | with_reducible assumption))) (by first | with_reducible assumption | omega | decide) (by decide) ?_
      refine bq_iast (q := 56) G dX5_copyFrom_55 rfl (by first | assumption | exact ⟨Nat.le_of_ble_eq_true rfl, rfl⟩) (by first | with_reducible assumption | exact rfl | exact bq_ixa rfl (by with_reducible assumption) | exact bq_ixa rfl rfl | exact bq_ixa (by with_reducible assumption) rfl | exact bq_ixa rfl (bq_ixa (by first | rfl | with_reducible assumption) (by first | rfl | with_reducible assumption))) (by first | with_reducible assumption | omega | decide) (by decide) ?_
      refine bq_aload_n (q := 57) G rfl dX5_copyFrom_56 rfl ?_
      refine bq_getr (q := 60) G dX5_copyFrom_57 rfl fl_X5_18 (by first | assumption | exact ⟨Nat.le_of_ble_eq_true rfl, rfl⟩) (fun _ _ _ => rfl) (by first | assumption | rfl) ?_
      refine bq_iload_n (q := 61) G rfl dX5_copyFrom_60 rfl ?_
      refine bq_aload_n (q := 62) G rfl dX5_copyFrom_61 rfl ?_
      refine bq_getr (q := 65) G dX5_copyFrom_62 rfl fl_X5_18 (by first | assumption | exact ⟨Nat.le_of_ble_eq_true rfl, rfl⟩) (fun _ _ _ => rfl) (by first | assumption | rfl) ?_
      refine bq_iload_n (q := 66) G rfl dX5_copyFrom_65 rfl ?_
      refine bq_iald (q := 67) G dX5_copyFrom_66 rfl (by first | assumption | exact ⟨Nat.le_of_ble_eq_true rfl, rfl⟩) (by first | with_reducible assumption | exact rfl | exact bq_ixa rfl (by with_reducible assumption) | exact bq_ixa rfl rfl | exact bq_ixa (by with_reducible assumption) rfl | exact bq_ixa rfl (bq_ixa (by first | rfl | with_reducible assumption) (by first | rfl | with_reducible assumption))) (by first | with_reducible assumption | omega | decide) (by decide) ?_
      refine bq_iast (q := 68) G dX5_copyFrom_67 rfl (by first | assumption | exact ⟨Nat.le_of_ble_eq_true rfl, rfl⟩) (by first | with_reducible assumption | exact rfl | exact bq_ixa rfl (by with_reducible assumption) | exact bq_ixa rfl rfl | exact bq_ixa (by with_reducible assumption) rfl | exact bq_ixa rfl (bq_ixa (by first | rfl | with_reducible assumption) (by first | rfl | with_reducible assumption))) (by first | with_reducible assumption | omega | decide) (by decide) ?_
      refine bq_iinc (q := 71) (ls' := [_, _, _]) G dX5_copyFrom_68 rfl rfl (by first | exact nI_1 _ | exact pk_m1 _ | rfl) (by decide) rfl rfl ?_
      refine bq_goto (q := 26) G dX5_copyFrom_71 (by decide) ?_
      refine ih hk8 _ ⟨⟨?_, ?_, ?_⟩, fun b hb => ⟨?_, ?_, ?_⟩, fun x hx => ?_⟩
      · rw [bq_srn1 (by omega), bq_srn1 (by omega), bq_srn1 (by omega)]; exact j0
      · rw [bq_srn1 (by omega), bq_srn1 (by omega), bq_srn1 (by omega)]; exact j1
      · rw [bq_srn1 (by omega), bq_srn1 (by omega), bq_srn1 (by omega)]; exact j2
      · rw [bq_srn1 (by omega), bq_srn1 (by omega), bq_sru]
        split
        · rename_i e; rw [e, jf (o + 1) (by omega)]
        · exact (jb b (by omega)).1
      · rw [bq_srn1 (by omega), bq_sru]
        split
        · rename_i e; rw [e, bq_srn1 (by omega), jf (o + 2) (by omega)]
        · rw [bq_srn1 (by omega)]; exact (jb b (by omega)).2.1
      · rw [bq_sru]
        split
        · rename_i e; rw [e, bq_srn1 (by omega), bq_srn1 (by omega), jf (o + 3) (by omega)]
        · rw [bq_srn1 (by omega), bq_srn1 (by omega)]; exact (jb b (by omega)).2.2
      · rw [bq_sr_n (by omega), bq_sr_n (by omega), bq_sr_n (by omega)]; exact jf x hx
    · have hk9 : k = 8 := by omega
      subst hk9
      have jo : J o = I o := jf o (by omega)
      refine bq_iload_n (q := 27) G rfl dX5_copyFrom_26 rfl ?_
      refine bq_bipush (q := 29) (v := 8) G (by decide) dX5_copyFrom_27 rfl ?_
      refine bq_icmp_ge_t (t := 74) G dX5_copyFrom_29 (by decide) (nI_le (a := 8) (b := 8) (by omega) (by decide)) ?_
      refine bq_aload_n (q := 75) G rfl dX5_copyFrom_74 rfl ?_
      refine bq_aload_n (q := 76) G rfl dX5_copyFrom_75 rfl ?_
      refine bq_geti (q := 79) G dX5_copyFrom_76 rfl fl_X5_31 (by first | assumption | exact ⟨Nat.le_of_ble_eq_true rfl, rfl⟩) rfl ?_
      refine bq_puti (q := 82) G dX5_copyFrom_79 rfl fl_X5_31 (by first | assumption | exact ⟨Nat.le_of_ble_eq_true rfl, rfl⟩) rfl rfl ?_
      refine bq_aload_n (q := 83) G rfl dX5_copyFrom_82 rfl ?_
      refine bq_aload_n (q := 84) G rfl dX5_copyFrom_83 rfl ?_
      refine bq_geti (q := 87) G dX5_copyFrom_84 rfl fl_X5_34 (by first | assumption | exact ⟨Nat.le_of_ble_eq_true rfl, rfl⟩) rfl ?_
      refine bq_puti (q := 90) G dX5_copyFrom_87 rfl fl_X5_34 (by first | assumption | exact ⟨Nat.le_of_ble_eq_true rfl, rfl⟩) rfl rfl ?_
      refine bq_aload_n (q := 91) G rfl dX5_copyFrom_90 rfl ?_
      refine bq_aload_n (q := 92) G rfl dX5_copyFrom_91 rfl ?_
      refine bq_geti (q := 95) G dX5_copyFrom_92 rfl fl_X5_37 (by first | assumption | exact ⟨Nat.le_of_ble_eq_true rfl, rfl⟩) rfl ?_
      refine bq_puti (q := 98) G dX5_copyFrom_95 rfl fl_X5_37 (by first | assumption | exact ⟨Nat.le_of_ble_eq_true rfl, rfl⟩) rfl rfl ?_
      refine bq_aload_n (q := 99) G rfl dX5_copyFrom_98 rfl ?_
      refine bq_aload_n (q := 100) G rfl dX5_copyFrom_99 rfl ?_
      refine bq_geti (q := 103) G dX5_copyFrom_100 rfl fl_X5_40 (by first | assumption | exact ⟨Nat.le_of_ble_eq_true rfl, rfl⟩) rfl ?_
      refine bq_puti (q := 106) G dX5_copyFrom_103 rfl fl_X5_40 (by first | assumption | exact ⟨Nat.le_of_ble_eq_true rfl, rfl⟩) rfl rfl ?_
      refine hret _ _ _ _ dX5_copyFrom_106 ⟨⟨⟨?_, fun b hb => ?_, ?_, ?_, ?_, ?_⟩, ?_, ?_⟩, fun x hx => ?_, rfl⟩
      · rw [bq_sru, if_neg (by decide), bq_sru, if_neg (by decide), bq_sru, if_neg (by decide), bq_sru, if_neg (by decide), j1]; exact hC.1
      · rw [bq_srn1 (by omega), bq_srn1 (by omega), bq_srn1 (by omega), bq_srn1 (by omega), bq_srn1 (by omega), bq_srn1 (by omega), bq_srn1 (by omega), bq_srn1 (by omega), bq_srn1 (by omega), bq_srn1 (by omega), bq_srn1 (by omega), bq_srn1 (by omega), (jb b hb).1, (jb b hb).2.1, (jb b hb).2.2]
        exact hC.2.1 b hb
      · rw [bq_sru, if_neg (by decide), bq_sru, if_neg (by decide), bq_sru, if_neg (by decide), bq_sru, if_pos rfl, jo]; exact hC.2.2.1
      · rw [bq_sru, if_neg (by decide), bq_sru, if_neg (by decide), bq_sru, if_pos rfl, bq_srn1 (by omega), jo]; exact hC.2.2.2.1
      · rw [bq_sru, if_neg (by decide), bq_sru, if_pos rfl, bq_srn1 (by omega), bq_srn1 (by omega), jo]; exact hC.2.2.2.2.1
      · rw [bq_sru, if_pos rfl, bq_srn1 (by omega), bq_srn1 (by omega), bq_srn1 (by omega), jo]; exact hC.2.2.2.2.2
      · rw [bq_sru, if_neg (by decide), bq_sru, if_neg (by decide), bq_sru, if_neg (by decide), bq_sru, if_neg (by decide)]; exact j0
      · rw [bq_sru, if_neg (by decide), bq_sru, if_neg (by decide), bq_sru, if_neg (by decide), bq_sru, if_neg (by decide)]; exact j2
      · rw [bq_sr_n (by omega), bq_sr_n (by omega), bq_sr_n (by omega), bq_sr_n (by omega)]; exact jf x hx
  refine bq_aload_n (q := 1) G rfl dX5_copyFrom_0 rfl ?_
  refine bq_aload_n (q := 2) G rfl dX5_copyFrom_1 rfl ?_
  refine bq_geti (q := 5) G dX5_copyFrom_2 rfl fl_X5_21 (by first | assumption | exact ⟨Nat.le_of_ble_eq_true rfl, rfl⟩) rfl ?_
  refine bq_puti (q := 8) G dX5_copyFrom_5 rfl fl_X5_21 (by first | assumption | exact ⟨Nat.le_of_ble_eq_true rfl, rfl⟩) rfl rfl ?_
  refine bq_aload_n (q := 9) G rfl dX5_copyFrom_8 rfl ?_
  refine bq_aload_n (q := 10) G rfl dX5_copyFrom_9 rfl ?_
  refine bq_geti (q := 13) G dX5_copyFrom_10 rfl fl_X5_25 (by first | assumption | exact ⟨Nat.le_of_ble_eq_true rfl, rfl⟩) rfl ?_
  refine bq_puti (q := 16) G dX5_copyFrom_13 rfl fl_X5_25 (by first | assumption | exact ⟨Nat.le_of_ble_eq_true rfl, rfl⟩) rfl rfl ?_
  refine bq_aload_n (q := 17) G rfl dX5_copyFrom_16 rfl ?_
  refine bq_aload_n (q := 18) G rfl dX5_copyFrom_17 rfl ?_
  refine bq_geti (q := 21) G dX5_copyFrom_18 rfl fl_X5_28 (by first | assumption | exact ⟨Nat.le_of_ble_eq_true rfl, rfl⟩) rfl ?_
  refine bq_puti (q := 24) G dX5_copyFrom_21 rfl fl_X5_28 (by first | assumption | exact ⟨Nat.le_of_ble_eq_true rfl, rfl⟩) rfl rfl ?_
  refine bq_iconst (q := 25) (v := 0) G (by decide) dX5_copyFrom_24 rfl ?_
  refine bq_istore_n (q := 26) (ls' := [_, _, _]) G dX5_copyFrom_25 rfl (by decide) rfl rfl ?_
  refine loop 0 (by omega) _ ⟨⟨?_, ?_, ?_⟩, fun b hb => by omega, fun x hx => ?_⟩
  · rw [bq_sru, if_neg (by decide), bq_sru, if_neg (by decide), bq_sru, if_pos rfl]
  · rw [bq_sru, if_neg (by decide), bq_sru, if_pos rfl, bq_srn1 (by omega)]
  · rw [bq_sru, if_pos rfl, bq_srn1 (by omega), bq_srn1 (by omega)]
  · rw [bq_sr_n (by omega), bq_sr_n (by omega), bq_sr_n (by omega)]
set_option maxHeartbeats 1000000 in
set_option maxRecDepth 100000 in
theorem c_X5_empty {z n : Nat} {R : bq_RR} {I : bq_IR} {L : bq_LR} {a : Nat}  (hM : bq_Mo z n R a) : bq_FV MX5_empty z [.ref (z + a)] n R I L (fun J L' => (bq_MC J a (fun _ => 0) ∧ J a 0 = 0 ∧ J a 2 = 0) ∧ (∀ x, (x < a ∨ a + 3 < x) → J x = I x) ∧ L' = L) := by
  refine bq_FVof [some (.ref (z + a)), none] rfl (Nat.le_of_ble_eq_true rfl) (by decide) rfl ?_
  intro A G hret
  have G : bq_Cx cX5_empty RX5 2 z (bq_rm MX5_empty 0 0) "empty" A := G
  obtain ⟨hM0, hM1, hM2, hM3, hR3, hR4, hR5⟩ := id hM
  have F0 : ∀ o, gs_F (fun _ => 0) o 0 := fun o => ⟨0, by decide, rfl, fun j _ => by rw [Nat.zero_div]; rfl⟩
  have loop : ∀ k, k ≤ 8 → ∀ J : bq_IR, ((J a 0 = 0 ∧ J a 1 = 0 ∧ J a 2 = 0) ∧ (∀ b, b < k → J (a + 1) b = 0 ∧ J (a + 2) b = 0 ∧ J (a + 3) b = 0) ∧ ∀ x, (x < a ∨ a + 3 < x) → J x = I x) → A 0 0 17 [some (.ref (z + a)), some (.int (nI k))] [] n R J L := by
    refine bq_down 8 ?_
    intro k hk ih J hJ
    obtain ⟨⟨j0, j1, j2⟩, jb, jf⟩ := hJ
    rcases Nat.lt_or_ge k 8 with hk8 | hk8
    · refine bq_iload_n (q := 18) G rfl dX5_empty_17 rfl ?_
      refine bq_bipush (q := 20) (v := 8) G (by decide) dX5_empty_18 rfl ?_
      refine bq_icmp_ge_f (q := 23) (t := 50) G dX5_empty_20 rfl (by decide) (nI_ge (a := k) (b := 8) hk8 (by decide)) ?_
      refine bq_aload_n (q := 24) G rfl dX5_empty_23 rfl ?_
      refine bq_getr (q := 27) G dX5_empty_24 rfl fl_X5_9 (by first | assumption | exact ⟨Nat.le_of_ble_eq_true rfl, rfl⟩) (fun _ _ _ => rfl) (by first | assumption | rfl) ?_
      refine bq_iload_n (q := 28) G rfl dX5_empty_27 rfl ?_
      refine bq_iconst (q := 29) (v := 0) G (by decide) dX5_empty_28 rfl ?_
      refine bq_iast (q := 30) G dX5_empty_29 rfl (by first | assumption | exact ⟨Nat.le_of_ble_eq_true rfl, rfl⟩) (by first | with_reducible assumption | exact rfl | exact bq_ixa rfl (by with_reducible assumption) | exact bq_ixa rfl rfl | exact bq_ixa (by with_reducible assumption) rfl | exact bq_ixa rfl (bq_ixa (by first | rfl | with_reducible assumption) (by first | rfl | with_reducible assumption))) (by first | with_reducible assumption | omega | decide) (by decide) ?_
      refine bq_aload_n (q := 31) G rfl dX5_empty_30 rfl ?_
      refine bq_getr (q := 34) G dX5_empty_31 rfl fl_X5_15 (by first | assumption | exact ⟨Nat.le_of_ble_eq_true rfl, rfl⟩) (fun _ _ _ => rfl) (by first | assumption | rfl) ?_
      refine bq_iload_n (q := 35) G rfl dX5_empty_34 rfl ?_
      refine bq_iconst (q := 36) (v := 0) G (by decide) dX5_empty_35 rfl ?_
      refine bq_iast (q := 37) G dX5_empty_36 rfl (by first | assumption | exact ⟨Nat.le_of_ble_eq_true rfl, rfl⟩) (by first | with_reducible assumption | exact rfl | exact bq_ixa rfl (by with_reducible assumption) | exact bq_ixa rfl rfl | exact bq_ixa (by with_reducible assumption) rfl | exact bq_ixa rfl (bq_ixa (by first | rfl | with_reducible assumption) (by first | rfl | with_reducible assumption))) (by first | with_reducible assumption | omega | decide) (by decide) ?_
      refine bq_aload_n (q := 38) G rfl dX5_empty_37 rfl ?_
      refine bq_getr (q := 41) G dX5_empty_38 rfl fl_X5_18 (by first | assumption | exact ⟨Nat.le_of_ble_eq_true rfl, rfl⟩) (fun _ _ _ => rfl) (by first | assumption | rfl) ?_
      refine bq_iload_n (q := 42) G rfl dX5_empty_41 rfl ?_
      refine bq_iconst (q := 43) (v := 0) G (by decide) dX5_empty_42 rfl ?_
      refine bq_iast (q := 44) G dX5_empty_43 rfl (by first | assumption | exact ⟨Nat.le_of_ble_eq_true rfl, rfl⟩) (by first | with_reducible assumption | exact rfl | exact bq_ixa rfl (by with_reducible assumption) | exact bq_ixa rfl rfl | exact bq_ixa (by with_reducible assumption) rfl | exact bq_ixa rfl (bq_ixa (by first | rfl | with_reducible assumption) (by first | rfl | with_reducible assumption))) (by first | with_reducible assumption | omega | decide) (by decide) ?_
      refine bq_iinc (q := 47) (ls' := [_, _]) G dX5_empty_44 rfl rfl (by first | exact nI_1 _ | exact pk_m1 _ | rfl) (by decide) rfl rfl ?_
      refine bq_goto (q := 17) G dX5_empty_47 (by decide) ?_
      refine ih hk8 _ ⟨⟨?_, ?_, ?_⟩, fun b hb => ⟨?_, ?_, ?_⟩, fun x hx => ?_⟩
      · rw [bq_srn1 (by omega), bq_srn1 (by omega), bq_srn1 (by omega)]; exact j0
      · rw [bq_srn1 (by omega), bq_srn1 (by omega), bq_srn1 (by omega)]; exact j1
      · rw [bq_srn1 (by omega), bq_srn1 (by omega), bq_srn1 (by omega)]; exact j2
      · rw [bq_srn1 (by omega), bq_srn1 (by omega), bq_sru]
        split
        · rfl
        · exact (jb b (by omega)).1
      · rw [bq_srn1 (by omega), bq_sru]
        split
        · rfl
        · rw [bq_srn1 (by omega)]; exact (jb b (by omega)).2.1
      · rw [bq_sru]
        split
        · rfl
        · rw [bq_srn1 (by omega), bq_srn1 (by omega)]; exact (jb b (by omega)).2.2
      · rw [bq_sr_n (by omega), bq_sr_n (by omega), bq_sr_n (by omega)]; exact jf x hx
    · have hk9 : k = 8 := by omega
      subst hk9
      refine bq_iload_n (q := 18) G rfl dX5_empty_17 rfl ?_
      refine bq_bipush (q := 20) (v := 8) G (by decide) dX5_empty_18 rfl ?_
      refine bq_icmp_ge_t (t := 50) G dX5_empty_20 (by decide) (nI_le (a := 8) (b := 8) (by omega) (by decide)) ?_
      refine bq_aload_n (q := 51) G rfl dX5_empty_50 rfl ?_
      refine bq_iconst (q := 52) (v := 0) G (by decide) dX5_empty_51 rfl ?_
      refine bq_puti (q := 55) G dX5_empty_52 rfl fl_X5_31 (by first | assumption | exact ⟨Nat.le_of_ble_eq_true rfl, rfl⟩) rfl rfl ?_
      refine bq_aload_n (q := 56) G rfl dX5_empty_55 rfl ?_
      refine bq_iconst (q := 57) (v := 0) G (by decide) dX5_empty_56 rfl ?_
      refine bq_puti (q := 60) G dX5_empty_57 rfl fl_X5_34 (by first | assumption | exact ⟨Nat.le_of_ble_eq_true rfl, rfl⟩) rfl rfl ?_
      refine bq_aload_n (q := 61) G rfl dX5_empty_60 rfl ?_
      refine bq_iconst (q := 62) (v := 0) G (by decide) dX5_empty_61 rfl ?_
      refine bq_puti (q := 65) G dX5_empty_62 rfl fl_X5_37 (by first | assumption | exact ⟨Nat.le_of_ble_eq_true rfl, rfl⟩) rfl rfl ?_
      refine bq_aload_n (q := 66) G rfl dX5_empty_65 rfl ?_
      refine bq_iconst (q := 67) (v := 0) G (by decide) dX5_empty_66 rfl ?_
      refine bq_puti (q := 70) G dX5_empty_67 rfl fl_X5_40 (by first | assumption | exact ⟨Nat.le_of_ble_eq_true rfl, rfl⟩) rfl rfl ?_
      refine hret _ _ _ _ dX5_empty_70 ⟨⟨⟨?_, fun b hb => ?_, ?_, ?_, ?_, ?_⟩, ?_, ?_⟩, fun x hx => ?_, rfl⟩
      · rw [bq_sru, if_neg (by decide), bq_sru, if_neg (by decide), bq_sru, if_neg (by decide), bq_sru, if_neg (by decide)]; exact j1
      · rw [bq_srn1 (by omega), bq_srn1 (by omega), bq_srn1 (by omega), bq_srn1 (by omega), bq_srn1 (by omega), bq_srn1 (by omega), bq_srn1 (by omega), bq_srn1 (by omega), bq_srn1 (by omega), bq_srn1 (by omega), bq_srn1 (by omega), bq_srn1 (by omega)]
        exact jb b hb
      · rw [bq_sru, if_neg (by decide), bq_sru, if_neg (by decide), bq_sru, if_neg (by decide), bq_sru, if_pos rfl]; exact F0 27
      · rw [bq_sru, if_neg (by decide), bq_sru, if_neg (by decide), bq_sru, if_pos rfl]; exact F0 35
      · rw [bq_sru, if_neg (by decide), bq_sru, if_pos rfl]; exact F0 43
      · rw [bq_sru, if_pos rfl]; exact F0 51
      · rw [bq_sru, if_neg (by decide), bq_sru, if_neg (by decide), bq_sru, if_neg (by decide), bq_sru, if_neg (by decide)]; exact j0
      · rw [bq_sru, if_neg (by decide), bq_sru, if_neg (by decide), bq_sru, if_neg (by decide), bq_sru, if_neg (by decide)]; exact j2
      · rw [bq_sr_n (by omega), bq_sr_n (by omega), bq_sr_n (by omega), bq_sr_n (by omega)]; exact jf x hx
  refine bq_aload_n (q := 1) G rfl dX5_empty_0 rfl ?_
  refine bq_iconst (q := 2) (v := 0) G (by decide) dX5_empty_1 rfl ?_
  refine bq_puti (q := 5) G dX5_empty_2 rfl fl_X5_21 (by first | assumption | exact ⟨Nat.le_of_ble_eq_true rfl, rfl⟩) rfl rfl ?_
  refine bq_aload_n (q := 6) G rfl dX5_empty_5 rfl ?_
  refine bq_iconst (q := 7) (v := 0) G (by decide) dX5_empty_6 rfl ?_
  refine bq_puti (q := 10) G dX5_empty_7 rfl fl_X5_25 (by first | assumption | exact ⟨Nat.le_of_ble_eq_true rfl, rfl⟩) rfl rfl ?_
  refine bq_aload_n (q := 11) G rfl dX5_empty_10 rfl ?_
  refine bq_iconst (q := 12) (v := 0) G (by decide) dX5_empty_11 rfl ?_
  refine bq_puti (q := 15) G dX5_empty_12 rfl fl_X5_28 (by first | assumption | exact ⟨Nat.le_of_ble_eq_true rfl, rfl⟩) rfl rfl ?_
  refine bq_iconst (q := 16) (v := 0) G (by decide) dX5_empty_15 rfl ?_
  refine bq_istore_n (q := 17) (ls' := [_, _]) G dX5_empty_16 rfl (by decide) rfl rfl ?_
  refine loop 0 (by omega) _ ⟨⟨?_, ?_, ?_⟩, fun b hb => by omega, fun x hx => ?_⟩
  · rw [bq_sru, if_neg (by decide), bq_sru, if_neg (by decide), bq_sru, if_pos rfl]
  · rw [bq_sru, if_neg (by decide), bq_sru, if_pos rfl]
  · rw [bq_sru, if_pos rfl]
  · rw [bq_sr_n (by omega), bq_sr_n (by omega), bq_sr_n (by omega)]
end
section
theorem i_vc : Claimed_1_1 ∧ Claimed_1_2 := sorry
end
