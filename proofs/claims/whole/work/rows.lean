section
-- ===== PART A: goes FIRST, ahead of the names: the tables' words, and 'selects' of the private methods out of them =====
/-- a private method of a class that the tables say can be made, by its rows of tables_1 -/
def lw_okq (q : MethodName × Nat) : Prop := (q.1.cls ≠ "java/lang/invoke/MethodHandle" ∧ q.1.cls ≠ "java/lang/invoke/VarHandle") ∧ Cond.instantiable q.1.cls q.2 ∈ tables_1 ∧ Cond.privateMethod q.1 ∈ tables_1 ∧ Cond.instanceMethod q.1 ∈ tables_1
theorem lw_p0 : lw_okq (⟨"ConkerHeirs$History", "dropOldest", "()V"⟩, 2) := ⟨⟨by decide +kernel, by decide +kernel⟩, List.mem_of_getElem? (i := 81) (by decide +kernel), List.mem_of_getElem? (i := 196) (by decide +kernel), List.mem_of_getElem? (i := 197) (by decide +kernel)⟩
theorem lw_p1 : lw_okq (⟨"ConkerHeirs$State", "pairError", "(IIZ)I"⟩, 13) := ⟨⟨by decide +kernel, by decide +kernel⟩, List.mem_of_getElem? (i := 19) (by decide +kernel), List.mem_of_getElem? (i := 224) (by decide +kernel), List.mem_of_getElem? (i := 225) (by decide +kernel)⟩
theorem lw_p2 : lw_okq (⟨"ConkerHeirs$State", "areInPlay", "(II)Z"⟩, 13) := ⟨⟨by decide +kernel, by decide +kernel⟩, List.mem_of_getElem? (i := 19) (by decide +kernel), List.mem_of_getElem? (i := 232) (by decide +kernel), List.mem_of_getElem? (i := 233) (by decide +kernel)⟩
theorem lw_p3 : lw_okq (⟨"ConkerHeirs$State", "settleSmashes", "(II)V"⟩, 13) := ⟨⟨by decide +kernel, by decide +kernel⟩, List.mem_of_getElem? (i := 19) (by decide +kernel), List.mem_of_getElem? (i := 246) (by decide +kernel), List.mem_of_getElem? (i := 247) (by decide +kernel)⟩
theorem lw_p4 : lw_okq (⟨"ConkerHeirs$State", "takeVictoriesOfSmashed", "(I)I"⟩, 13) := ⟨⟨by decide +kernel, by decide +kernel⟩, List.mem_of_getElem? (i := 19) (by decide +kernel), List.mem_of_getElem? (i := 254) (by decide +kernel), List.mem_of_getElem? (i := 255) (by decide +kernel)⟩
theorem lw_p5 : lw_okq (⟨"ConkerHeirs$State", "inherit", "(II)V"⟩, 13) := ⟨⟨by decide +kernel, by decide +kernel⟩, List.mem_of_getElem? (i := 19) (by decide +kernel), List.mem_of_getElem? (i := 258) (by decide +kernel), List.mem_of_getElem? (i := 259) (by decide +kernel)⟩
theorem lw_p6 : lw_okq (⟨"ConkerHeirs$State", "fallIfWorn", "(I)V"⟩, 13) := ⟨⟨by decide +kernel, by decide +kernel⟩, List.mem_of_getElem? (i := 19) (by decide +kernel), List.mem_of_getElem? (i := 262) (by decide +kernel), List.mem_of_getElem? (i := 263) (by decide +kernel)⟩
theorem lw_p7 : lw_okq (⟨"ConkerHeirs$State", "outcome", "(III)I"⟩, 13) := ⟨⟨by decide +kernel, by decide +kernel⟩, List.mem_of_getElem? (i := 19) (by decide +kernel), List.mem_of_getElem? (i := 266) (by decide +kernel), List.mem_of_getElem? (i := 267) (by decide +kernel)⟩
theorem lw_p8 : lw_okq (⟨"ConkerHeirs$Row", "insert", "(ILConkerHeirs$State;)V"⟩, 2) := ⟨⟨by decide +kernel, by decide +kernel⟩, List.mem_of_getElem? (i := 143) (by decide +kernel), List.mem_of_getElem? (i := 348) (by decide +kernel), List.mem_of_getElem? (i := 349) (by decide +kernel)⟩
theorem lw_p9 : lw_okq (⟨"ConkerHeirs$Script", "sign", "()C"⟩, 7) := ⟨⟨by decide +kernel, by decide +kernel⟩, List.mem_of_getElem? (i := 98) (by decide +kernel), List.mem_of_getElem? (i := 381) (by decide +kernel), List.mem_of_getElem? (i := 382) (by decide +kernel)⟩
theorem lw_p10 : lw_okq (⟨"ConkerHeirs$Script", "readConker", "()I"⟩, 7) := ⟨⟨by decide +kernel, by decide +kernel⟩, List.mem_of_getElem? (i := 98) (by decide +kernel), List.mem_of_getElem? (i := 385) (by decide +kernel), List.mem_of_getElem? (i := 386) (by decide +kernel)⟩
theorem lw_p11 : lw_okq (⟨"ConkerHeirs$Script", "digit", "()I"⟩, 7) := ⟨⟨by decide +kernel, by decide +kernel⟩, List.mem_of_getElem? (i := 98) (by decide +kernel), List.mem_of_getElem? (i := 389) (by decide +kernel), List.mem_of_getElem? (i := 390) (by decide +kernel)⟩
theorem lw_p12 : lw_okq (⟨"ConkerHeirs", "carryOutOrder", "()I"⟩, 8) := ⟨⟨by decide +kernel, by decide +kernel⟩, List.mem_of_getElem? (i := 11) (by decide +kernel), List.mem_of_getElem? (i := 403) (by decide +kernel), List.mem_of_getElem? (i := 404) (by decide +kernel)⟩
theorem lw_p13 : lw_okq (⟨"ConkerHeirs$State", "isOf", "(II)Z"⟩, 13) := ⟨⟨by decide +kernel, by decide +kernel⟩, List.mem_of_getElem? (i := 19) (by decide +kernel), List.mem_of_getElem? (i := 425) (by decide +kernel), List.mem_of_getElem? (i := 426) (by decide +kernel)⟩
theorem lw_p14 : lw_okq (⟨"ConkerHeirs$State", "conkersAheadOf", "(I)I"⟩, 13) := ⟨⟨by decide +kernel, by decide +kernel⟩, List.mem_of_getElem? (i := 19) (by decide +kernel), List.mem_of_getElem? (i := 458) (by decide +kernel), List.mem_of_getElem? (i := 459) (by decide +kernel)⟩
theorem lw_p15 : lw_okq (⟨"ConkerHeirs$State", "isInLineOf", "(II)Z"⟩, 13) := ⟨⟨by decide +kernel, by decide +kernel⟩, List.mem_of_getElem? (i := 19) (by decide +kernel), List.mem_of_getElem? (i := 470) (by decide +kernel), List.mem_of_getElem? (i := 471) (by decide +kernel)⟩
def lw_privs_1 : List (MethodName × Nat) := [(⟨"ConkerHeirs$History", "dropOldest", "()V"⟩, 2), (⟨"ConkerHeirs$State", "pairError", "(IIZ)I"⟩, 13), (⟨"ConkerHeirs$State", "areInPlay", "(II)Z"⟩, 13), (⟨"ConkerHeirs$State", "settleSmashes", "(II)V"⟩, 13), (⟨"ConkerHeirs$State", "takeVictoriesOfSmashed", "(I)I"⟩, 13), (⟨"ConkerHeirs$State", "inherit", "(II)V"⟩, 13), (⟨"ConkerHeirs$State", "fallIfWorn", "(I)V"⟩, 13), (⟨"ConkerHeirs$State", "outcome", "(III)I"⟩, 13), (⟨"ConkerHeirs$Row", "insert", "(ILConkerHeirs$State;)V"⟩, 2), (⟨"ConkerHeirs$Script", "sign", "()C"⟩, 7), (⟨"ConkerHeirs$Script", "readConker", "()I"⟩, 7), (⟨"ConkerHeirs$Script", "digit", "()I"⟩, 7), (⟨"ConkerHeirs", "carryOutOrder", "()I"⟩, 8), (⟨"ConkerHeirs$State", "isOf", "(II)Z"⟩, 13), (⟨"ConkerHeirs$State", "conkersAheadOf", "(I)I"⟩, 13), (⟨"ConkerHeirs$State", "isInLineOf", "(II)Z"⟩, 13)]
theorem lw_r1 : ∀ q ∈ lw_privs_1, lw_okq q := List.forall_mem_cons.mpr ⟨lw_p0, List.forall_mem_cons.mpr ⟨lw_p1, List.forall_mem_cons.mpr ⟨lw_p2, List.forall_mem_cons.mpr ⟨lw_p3, List.forall_mem_cons.mpr ⟨lw_p4, List.forall_mem_cons.mpr ⟨lw_p5, List.forall_mem_cons.mpr ⟨lw_p6, List.forall_mem_cons.mpr ⟨lw_p7, List.forall_mem_cons.mpr ⟨lw_p8, List.forall_mem_cons.mpr ⟨lw_p9, List.forall_mem_cons.mpr ⟨lw_p10, List.forall_mem_cons.mpr ⟨lw_p11, List.forall_mem_cons.mpr ⟨lw_p12, List.forall_mem_cons.mpr ⟨lw_p13, List.forall_mem_cons.mpr ⟨lw_p14, List.forall_mem_cons.mpr ⟨lw_p15, fun _ h => absurd h List.not_mem_nil⟩⟩⟩⟩⟩⟩⟩⟩⟩⟩⟩⟩⟩⟩⟩⟩
theorem lw_p16 : lw_okq (⟨"ConkerHeirs", "tryHit", "(III)I"⟩, 8) := ⟨⟨by decide +kernel, by decide +kernel⟩, List.mem_of_getElem? (i := 11) (by decide +kernel), List.mem_of_getElem? (i := 495) (by decide +kernel), List.mem_of_getElem? (i := 496) (by decide +kernel)⟩
theorem lw_p17 : lw_okq (⟨"ConkerHeirsModel", "records", "()V"⟩, 13) := ⟨⟨by decide +kernel, by decide +kernel⟩, List.mem_of_getElem? (i := 511) (by decide +kernel), List.mem_of_getElem? (i := 567) (by decide +kernel), List.mem_of_getElem? (i := 568) (by decide +kernel)⟩
theorem lw_p18 : lw_okq (⟨"ConkerHeirsModel", "copies", "(II)V"⟩, 13) := ⟨⟨by decide +kernel, by decide +kernel⟩, List.mem_of_getElem? (i := 511) (by decide +kernel), List.mem_of_getElem? (i := 571) (by decide +kernel), List.mem_of_getElem? (i := 572) (by decide +kernel)⟩
theorem lw_p19 : lw_okq (⟨"ConkerHeirsModel", "strikeError", "(III)I"⟩, 13) := ⟨⟨by decide +kernel, by decide +kernel⟩, List.mem_of_getElem? (i := 511) (by decide +kernel), List.mem_of_getElem? (i := 586) (by decide +kernel), List.mem_of_getElem? (i := 587) (by decide +kernel)⟩
theorem lw_p20 : lw_okq (⟨"ConkerHeirsModel", "pairError", "(IIZ)I"⟩, 13) := ⟨⟨by decide +kernel, by decide +kernel⟩, List.mem_of_getElem? (i := 511) (by decide +kernel), List.mem_of_getElem? (i := 590) (by decide +kernel), List.mem_of_getElem? (i := 591) (by decide +kernel)⟩
theorem lw_p21 : lw_okq (⟨"ConkerHeirsModel", "isConker", "(I)Z"⟩, 13) := ⟨⟨by decide +kernel, by decide +kernel⟩, List.mem_of_getElem? (i := 511) (by decide +kernel), List.mem_of_getElem? (i := 594) (by decide +kernel), List.mem_of_getElem? (i := 595) (by decide +kernel)⟩
theorem lw_p22 : lw_okq (⟨"ConkerHeirsModel", "strikes", "(IIII)I"⟩, 13) := ⟨⟨by decide +kernel, by decide +kernel⟩, List.mem_of_getElem? (i := 511) (by decide +kernel), List.mem_of_getElem? (i := 598) (by decide +kernel), List.mem_of_getElem? (i := 599) (by decide +kernel)⟩
theorem lw_p23 : lw_okq (⟨"ConkerHeirsModel", "smashes", "(II)V"⟩, 13) := ⟨⟨by decide +kernel, by decide +kernel⟩, List.mem_of_getElem? (i := 511) (by decide +kernel), List.mem_of_getElem? (i := 605) (by decide +kernel), List.mem_of_getElem? (i := 606) (by decide +kernel)⟩
theorem lw_p24 : lw_okq (⟨"ConkerHeirsModel", "mendError", "(I)I"⟩, 13) := ⟨⟨by decide +kernel, by decide +kernel⟩, List.mem_of_getElem? (i := 511) (by decide +kernel), List.mem_of_getElem? (i := 616) (by decide +kernel), List.mem_of_getElem? (i := 617) (by decide +kernel)⟩
theorem lw_p25 : lw_okq (⟨"ConkerHeirsModel", "spare", "(I)I"⟩, 13) := ⟨⟨by decide +kernel, by decide +kernel⟩, List.mem_of_getElem? (i := 511) (by decide +kernel), List.mem_of_getElem? (i := 620) (by decide +kernel), List.mem_of_getElem? (i := 621) (by decide +kernel)⟩
theorem lw_p26 : lw_okq (⟨"ConkerHeirsModel", "mends", "(I)I"⟩, 13) := ⟨⟨by decide +kernel, by decide +kernel⟩, List.mem_of_getElem? (i := 511) (by decide +kernel), List.mem_of_getElem? (i := 624) (by decide +kernel), List.mem_of_getElem? (i := 625) (by decide +kernel)⟩
theorem lw_p27 : lw_okq (⟨"ConkerHeirsModel", "stampError", "(I)I"⟩, 13) := ⟨⟨by decide +kernel, by decide +kernel⟩, List.mem_of_getElem? (i := 511) (by decide +kernel), List.mem_of_getElem? (i := 632) (by decide +kernel), List.mem_of_getElem? (i := 633) (by decide +kernel)⟩
theorem lw_p28 : lw_okq (⟨"ConkerHeirsModel", "stamps", "(I)I"⟩, 13) := ⟨⟨by decide +kernel, by decide +kernel⟩, List.mem_of_getElem? (i := 511) (by decide +kernel), List.mem_of_getElem? (i := 636) (by decide +kernel), List.mem_of_getElem? (i := 637) (by decide +kernel)⟩
theorem lw_p29 : lw_okq (⟨"ConkerHeirsModel", "boutError", "(III)I"⟩, 13) := ⟨⟨by decide +kernel, by decide +kernel⟩, List.mem_of_getElem? (i := 511) (by decide +kernel), List.mem_of_getElem? (i := 652) (by decide +kernel), List.mem_of_getElem? (i := 653) (by decide +kernel)⟩
theorem lw_p30 : lw_okq (⟨"ConkerHeirsModel", "fights", "(III)I"⟩, 13) := ⟨⟨by decide +kernel, by decide +kernel⟩, List.mem_of_getElem? (i := 511) (by decide +kernel), List.mem_of_getElem? (i := 657) (by decide +kernel), List.mem_of_getElem? (i := 658) (by decide +kernel)⟩
theorem lw_p31 : lw_okq (⟨"ConkerHeirsModel", "goesOn", "()V"⟩, 13) := ⟨⟨by decide +kernel, by decide +kernel⟩, List.mem_of_getElem? (i := 511) (by decide +kernel), List.mem_of_getElem? (i := 661) (by decide +kernel), List.mem_of_getElem? (i := 662) (by decide +kernel)⟩
def lw_privs_2 : List (MethodName × Nat) := [(⟨"ConkerHeirs", "tryHit", "(III)I"⟩, 8), (⟨"ConkerHeirsModel", "records", "()V"⟩, 13), (⟨"ConkerHeirsModel", "copies", "(II)V"⟩, 13), (⟨"ConkerHeirsModel", "strikeError", "(III)I"⟩, 13), (⟨"ConkerHeirsModel", "pairError", "(IIZ)I"⟩, 13), (⟨"ConkerHeirsModel", "isConker", "(I)Z"⟩, 13), (⟨"ConkerHeirsModel", "strikes", "(IIII)I"⟩, 13), (⟨"ConkerHeirsModel", "smashes", "(II)V"⟩, 13), (⟨"ConkerHeirsModel", "mendError", "(I)I"⟩, 13), (⟨"ConkerHeirsModel", "spare", "(I)I"⟩, 13), (⟨"ConkerHeirsModel", "mends", "(I)I"⟩, 13), (⟨"ConkerHeirsModel", "stampError", "(I)I"⟩, 13), (⟨"ConkerHeirsModel", "stamps", "(I)I"⟩, 13), (⟨"ConkerHeirsModel", "boutError", "(III)I"⟩, 13), (⟨"ConkerHeirsModel", "fights", "(III)I"⟩, 13), (⟨"ConkerHeirsModel", "goesOn", "()V"⟩, 13)]
theorem lw_r2 : ∀ q ∈ lw_privs_2, lw_okq q := List.forall_mem_cons.mpr ⟨lw_p16, List.forall_mem_cons.mpr ⟨lw_p17, List.forall_mem_cons.mpr ⟨lw_p18, List.forall_mem_cons.mpr ⟨lw_p19, List.forall_mem_cons.mpr ⟨lw_p20, List.forall_mem_cons.mpr ⟨lw_p21, List.forall_mem_cons.mpr ⟨lw_p22, List.forall_mem_cons.mpr ⟨lw_p23, List.forall_mem_cons.mpr ⟨lw_p24, List.forall_mem_cons.mpr ⟨lw_p25, List.forall_mem_cons.mpr ⟨lw_p26, List.forall_mem_cons.mpr ⟨lw_p27, List.forall_mem_cons.mpr ⟨lw_p28, List.forall_mem_cons.mpr ⟨lw_p29, List.forall_mem_cons.mpr ⟨lw_p30, List.forall_mem_cons.mpr ⟨lw_p31, fun _ h => absurd h List.not_mem_nil⟩⟩⟩⟩⟩⟩⟩⟩⟩⟩⟩⟩⟩⟩⟩⟩
theorem lw_p32 : lw_okq (⟨"ConkerHeirsModel", "lines", "()I"⟩, 13) := ⟨⟨by decide +kernel, by decide +kernel⟩, List.mem_of_getElem? (i := 511) (by decide +kernel), List.mem_of_getElem? (i := 670) (by decide +kernel), List.mem_of_getElem? (i := 671) (by decide +kernel)⟩
theorem lw_p33 : lw_okq (⟨"ConkerHeirsModel", "best", "(I)I"⟩, 13) := ⟨⟨by decide +kernel, by decide +kernel⟩, List.mem_of_getElem? (i := 511) (by decide +kernel), List.mem_of_getElem? (i := 674) (by decide +kernel), List.mem_of_getElem? (i := 675) (by decide +kernel)⟩
theorem lw_p34 : lw_okq (⟨"ConkerHeirsModel", "readsOrder", "()Z"⟩, 13) := ⟨⟨by decide +kernel, by decide +kernel⟩, List.mem_of_getElem? (i := 511) (by decide +kernel), List.mem_of_getElem? (i := 690) (by decide +kernel), List.mem_of_getElem? (i := 691) (by decide +kernel)⟩
theorem lw_p35 : lw_okq (⟨"ConkerHeirsModel", "takes", "(I)Z"⟩, 13) := ⟨⟨by decide +kernel, by decide +kernel⟩, List.mem_of_getElem? (i := 511) (by decide +kernel), List.mem_of_getElem? (i := 694) (by decide +kernel), List.mem_of_getElem? (i := 695) (by decide +kernel)⟩
theorem lw_p36 : lw_okq (⟨"ConkerHeirsModel", "isHere", "(II)Z"⟩, 13) := ⟨⟨by decide +kernel, by decide +kernel⟩, List.mem_of_getElem? (i := 511) (by decide +kernel), List.mem_of_getElem? (i := 698) (by decide +kernel), List.mem_of_getElem? (i := 699) (by decide +kernel)⟩
theorem lw_p37 : lw_okq (⟨"ConkerHeirsModel", "number", "()I"⟩, 13) := ⟨⟨by decide +kernel, by decide +kernel⟩, List.mem_of_getElem? (i := 511) (by decide +kernel), List.mem_of_getElem? (i := 702) (by decide +kernel), List.mem_of_getElem? (i := 703) (by decide +kernel)⟩
theorem lw_p38 : lw_okq (⟨"ConkerHeirsModel", "orderError", "()I"⟩, 13) := ⟨⟨by decide +kernel, by decide +kernel⟩, List.mem_of_getElem? (i := 511) (by decide +kernel), List.mem_of_getElem? (i := 711) (by decide +kernel), List.mem_of_getElem? (i := 712) (by decide +kernel)⟩
theorem lw_p39 : lw_okq (⟨"ConkerHeirsModel", "does", "()I"⟩, 13) := ⟨⟨by decide +kernel, by decide +kernel⟩, List.mem_of_getElem? (i := 511) (by decide +kernel), List.mem_of_getElem? (i := 715) (by decide +kernel), List.mem_of_getElem? (i := 716) (by decide +kernel)⟩
theorem lw_p40 : lw_okq (⟨"ConkerHeirsModel", "conkers", "(II)I"⟩, 13) := ⟨⟨by decide +kernel, by decide +kernel⟩, List.mem_of_getElem? (i := 511) (by decide +kernel), List.mem_of_getElem? (i := 727) (by decide +kernel), List.mem_of_getElem? (i := 728) (by decide +kernel)⟩
theorem lw_p41 : lw_okq (⟨"ConkerHeirsModel", "heirOf", "(I)I"⟩, 13) := ⟨⟨by decide +kernel, by decide +kernel⟩, List.mem_of_getElem? (i := 511) (by decide +kernel), List.mem_of_getElem? (i := 739) (by decide +kernel), List.mem_of_getElem? (i := 740) (by decide +kernel)⟩
theorem lw_p42 : lw_okq (⟨"ConkerHeirsModel", "victories", "(I)I"⟩, 13) := ⟨⟨by decide +kernel, by decide +kernel⟩, List.mem_of_getElem? (i := 511) (by decide +kernel), List.mem_of_getElem? (i := 747) (by decide +kernel), List.mem_of_getElem? (i := 748) (by decide +kernel)⟩
theorem lw_p43 : lw_okq (⟨"ConkerHeirsModel", "ahead", "(I)I"⟩, 13) := ⟨⟨by decide +kernel, by decide +kernel⟩, List.mem_of_getElem? (i := 511) (by decide +kernel), List.mem_of_getElem? (i := 755) (by decide +kernel), List.mem_of_getElem? (i := 756) (by decide +kernel)⟩
theorem lw_p44 : lw_okq (⟨"ConkerHeirsModel", "isInLine", "(II)Z"⟩, 13) := ⟨⟨by decide +kernel, by decide +kernel⟩, List.mem_of_getElem? (i := 511) (by decide +kernel), List.mem_of_getElem? (i := 763) (by decide +kernel), List.mem_of_getElem? (i := 764) (by decide +kernel)⟩
theorem lw_p45 : lw_okq (⟨"ConkerHeirsModel", "boasts", "(Z)I"⟩, 13) := ⟨⟨by decide +kernel, by decide +kernel⟩, List.mem_of_getElem? (i := 511) (by decide +kernel), List.mem_of_getElem? (i := 771) (by decide +kernel), List.mem_of_getElem? (i := 772) (by decide +kernel)⟩
def lw_privs_3 : List (MethodName × Nat) := [(⟨"ConkerHeirsModel", "lines", "()I"⟩, 13), (⟨"ConkerHeirsModel", "best", "(I)I"⟩, 13), (⟨"ConkerHeirsModel", "readsOrder", "()Z"⟩, 13), (⟨"ConkerHeirsModel", "takes", "(I)Z"⟩, 13), (⟨"ConkerHeirsModel", "isHere", "(II)Z"⟩, 13), (⟨"ConkerHeirsModel", "number", "()I"⟩, 13), (⟨"ConkerHeirsModel", "orderError", "()I"⟩, 13), (⟨"ConkerHeirsModel", "does", "()I"⟩, 13), (⟨"ConkerHeirsModel", "conkers", "(II)I"⟩, 13), (⟨"ConkerHeirsModel", "heirOf", "(I)I"⟩, 13), (⟨"ConkerHeirsModel", "victories", "(I)I"⟩, 13), (⟨"ConkerHeirsModel", "ahead", "(I)I"⟩, 13), (⟨"ConkerHeirsModel", "isInLine", "(II)Z"⟩, 13), (⟨"ConkerHeirsModel", "boasts", "(Z)I"⟩, 13)]
theorem lw_r3 : ∀ q ∈ lw_privs_3, lw_okq q := List.forall_mem_cons.mpr ⟨lw_p32, List.forall_mem_cons.mpr ⟨lw_p33, List.forall_mem_cons.mpr ⟨lw_p34, List.forall_mem_cons.mpr ⟨lw_p35, List.forall_mem_cons.mpr ⟨lw_p36, List.forall_mem_cons.mpr ⟨lw_p37, List.forall_mem_cons.mpr ⟨lw_p38, List.forall_mem_cons.mpr ⟨lw_p39, List.forall_mem_cons.mpr ⟨lw_p40, List.forall_mem_cons.mpr ⟨lw_p41, List.forall_mem_cons.mpr ⟨lw_p42, List.forall_mem_cons.mpr ⟨lw_p43, List.forall_mem_cons.mpr ⟨lw_p44, List.forall_mem_cons.mpr ⟨lw_p45, fun _ h => absurd h List.not_mem_nil⟩⟩⟩⟩⟩⟩⟩⟩⟩⟩⟩⟩⟩⟩
def lw_privs : List (MethodName × Nat) := lw_privs_1 ++ (lw_privs_2 ++ (lw_privs_3))
def lw_tbl : List Cond := k2_sels lw_privs ++ tables_1
theorem lw_privs_ok : ∀ q ∈ lw_privs, lw_okq q := by
  show ∀ q ∈ lw_privs_1 ++ (lw_privs_2 ++ (lw_privs_3)), lw_okq q
  exact List.forall_mem_append.mpr ⟨lw_r1, List.forall_mem_append.mpr ⟨lw_r2, lw_r3⟩⟩
/-- the streams that the claim lets the run draw from -/
abbrev lw_cs : List Choice := [Jvm.Choice.named "NaN.bits"]
theorem lw_bits : nanBits ∈ lw_cs := by first | decide | exact List.mem_cons_self | simp [lw_cs, nanBits]
end
section
/-! ===== BEGIN words of one list among another's, by their places ===== -/
theorem goodIn_r {big : List Cond} (ws : List Cond) (ps : List Nat) (hp : ws = ps.filterMap (fun i => big[i]?)) (h : ws.all goodWord = true) : GoodIn big ws := by
  intro w hw
  have h1 := List.all_eq_true.mp h w hw
  rw [hp] at hw
  obtain ⟨i, -, hi⟩ := List.mem_filterMap.mp hw
  have hm : w ∈ big := by first | exact List.mem_of_getElem? hi | exact List.getElem?_mem hi
  exact ⟨hm, good_of_word h1⟩
theorem goodIn_app {big a b : List Cond} (ha : GoodIn big a) (hb : GoodIn big b) : GoodIn big (a ++ b) := fun w h => (List.mem_append.mp h).elim (ha w) (hb w)
theorem goodIn_ca {big a b : List Cond} {c : Cond} (ha : GoodIn big (c :: a)) (hb : GoodIn big b) : GoodIn big (c :: (a ++ b)) := fun w h => (List.mem_cons.mp h).elim (fun e => ha w (List.mem_cons.mpr (Or.inl e))) (fun h => (List.mem_append.mp h).elim (fun h => ha w (List.mem_cons.mpr (Or.inr h))) (hb w))
theorem goodIn_sub {big ws : List Cond} (hm : ∀ w ∈ ws, w ∈ big) (h : ws.all goodWord = true) : GoodIn big ws := fun w hw => ⟨hm w hw, good_of_word (List.all_eq_true.mp h w hw)⟩
/-! ===== END ===== -/

/-! ===== BEGIN printed: names, fields, word lists, decode rows ===== -/
def RX0 : String := "ConkerHeirs$Draws"
def TX0 : u_T := fun k => match k with
  | _ => ("ConkerHeirs$Draws", "x", "I", false)
def tyX0 : Nat → FieldType := fun k => match k with
  | _ => .int
abbrev wsX00 : List Cond := u_ws RX0 TX0 1
theorem nmX0 : ∀ a, a < 1 → ∀ b, b < 1 → a ≠ b → (TX0 a).2.1 ≠ (TX0 b).2.1 := by decide +kernel
theorem tyX0_ok : ∀ k, k < 1 → parseFieldDescriptor (TX0 k).2.2.1 = some (tyX0 k) := by decide +kernel
abbrev cX0_init : ByteArray := prog_2_method_1_code
def yX0_init : MethodName := ⟨RX0, "<init>", "()V"⟩
abbrev cX0_begin : ByteArray := prog_2_method_2_code
def yX0_begin : MethodName := ⟨RX0, "begin", "(I)V"⟩
abbrev cX0_next : ByteArray := prog_2_method_3_code
def yX0_next : MethodName := ⟨RX0, "next", "()I"⟩
abbrev cX0_swing : ByteArray := prog_2_method_4_code
def yX0_swing : MethodName := ⟨RX0, "swing", "()I"⟩
def RX1 : String := "ConkerHeirs$History"
def TX1 : u_T := fun k => match k with
  | 0 => ("ConkerHeirs$History", "states", "[LConkerHeirs$State;", true)
  | _ => ("ConkerHeirs$History", "held", "I", false)
def tyX1 : Nat → FieldType := fun k => match k with
  | 0 => .array (.object "ConkerHeirs$State")
  | _ => .int
abbrev wsX10 : List Cond := u_ws RX1 TX1 2
theorem nmX1 : ∀ a, a < 2 → ∀ b, b < 2 → a ≠ b → (TX1 a).2.1 ≠ (TX1 b).2.1 := by decide +kernel
theorem tyX1_ok : ∀ k, k < 2 → parseFieldDescriptor (TX1 k).2.2.1 = some (tyX1 k) := by decide +kernel
abbrev cX1_init : ByteArray := prog_3_method_1_code
def yX1_init : MethodName := ⟨RX1, "<init>", "()V"⟩
abbrev cX1_keep : ByteArray := prog_3_method_2_code
def yX1_keep : MethodName := ⟨RX1, "keep", "(LConkerHeirs$State;)V"⟩
abbrev cX1_bringBack : ByteArray := prog_3_method_3_code
def yX1_bringBack : MethodName := ⟨RX1, "bringBack", "(LConkerHeirs$State;)I"⟩
abbrev cX1_dropOldest : ByteArray := prog_3_method_4_code
def yX1_dropOldest : MethodName := ⟨RX1, "dropOldest", "()V"⟩
def RX2 : String := "ConkerHeirs$Row"
def TX2 : u_T := fun k => match k with
  | 0 => ("ConkerHeirs$Row", "conkers", "[I", true)
  | _ => ("ConkerHeirs$Row", "length", "I", false)
def tyX2 : Nat → FieldType := fun k => match k with
  | 0 => .array .int
  | _ => .int
abbrev wsX20 : List Cond := u_ws RX2 TX2 2
theorem nmX2 : ∀ a, a < 2 → ∀ b, b < 2 → a ≠ b → (TX2 a).2.1 ≠ (TX2 b).2.1 := by decide +kernel
theorem tyX2_ok : ∀ k, k < 2 → parseFieldDescriptor (TX2 k).2.2.1 = some (tyX2 k) := by decide +kernel
abbrev cX2_init : ByteArray := prog_4_method_1_code
def yX2_init : MethodName := ⟨RX2, "<init>", "()V"⟩
abbrev cX2_lineUp : ByteArray := prog_4_method_2_code
def yX2_lineUp : MethodName := ⟨RX2, "lineUp", "(LConkerHeirs$State;)V"⟩
abbrev cX2_insert : ByteArray := prog_4_method_3_code
def yX2_insert : MethodName := ⟨RX2, "insert", "(ILConkerHeirs$State;)V"⟩
abbrev cX2_takeOut : ByteArray := prog_4_method_4_code
def yX2_takeOut : MethodName := ⟨RX2, "takeOut", "(I)I"⟩
def RX3 : String := "ConkerHeirs$Script"
def TX3 : u_T := fun k => match k with
  | 0 => ("ConkerHeirs$Script", "signs", "[C", true)
  | 1 => ("ConkerHeirs$Script", "length", "I", false)
  | 2 => ("ConkerHeirs$Script", "at", "I", false)
  | 3 => ("ConkerHeirs$Script", "kind", "C", false)
  | 4 => ("ConkerHeirs$Script", "first", "I", false)
  | 5 => ("ConkerHeirs$Script", "second", "I", false)
  | _ => ("ConkerHeirs$Script", "swing", "I", false)
def tyX3 : Nat → FieldType := fun k => match k with
  | 0 => .array .char
  | 1 => .int
  | 2 => .int
  | 3 => .char
  | 4 => .int
  | 5 => .int
  | _ => .int
abbrev wsX30 : List Cond := u_ws RX3 TX3 7
theorem nmX3 : ∀ a, a < 7 → ∀ b, b < 7 → a ≠ b → (TX3 a).2.1 ≠ (TX3 b).2.1 := by decide +kernel
theorem tyX3_ok : ∀ k, k < 7 → parseFieldDescriptor (TX3 k).2.2.1 = some (tyX3 k) := by decide +kernel
abbrev cX3_init : ByteArray := prog_5_method_1_code
def yX3_init : MethodName := ⟨RX3, "<init>", "()V"⟩
abbrev cX3_rewind : ByteArray := prog_5_method_2_code
def yX3_rewind : MethodName := ⟨RX3, "rewind", "()V"⟩
abbrev cX3_findFault : ByteArray := prog_5_method_3_code
def yX3_findFault : MethodName := ⟨RX3, "findFault", "()I"⟩
abbrev cX3_readOrder : ByteArray := prog_5_method_4_code
def yX3_readOrder : MethodName := ⟨RX3, "readOrder", "()Z"⟩
abbrev cX3_take : ByteArray := prog_5_method_5_code
def yX3_take : MethodName := ⟨RX3, "take", "(C)Z"⟩
abbrev cX3_readConker : ByteArray := prog_5_method_6_code
def yX3_readConker : MethodName := ⟨RX3, "readConker", "()I"⟩
abbrev cX3_digit : ByteArray := prog_5_method_7_code
def yX3_digit : MethodName := ⟨RX3, "digit", "()I"⟩
abbrev cX3_sign : ByteArray := prog_5_method_8_code
def yX3_sign : MethodName := ⟨RX3, "sign", "()C"⟩
def RX4 : String := "ConkerHeirs$State"
def TX4 : u_T := fun k => match k with
  | 0 => ("ConkerHeirs$State", "strings", "[I", true)
  | 1 => ("ConkerHeirs$State", "shame", "[I", true)
  | 2 => ("ConkerHeirs$State", "owner", "[I", true)
  | 3 => ("ConkerHeirs$State", "hardness", "[I", true)
  | 4 => ("ConkerHeirs$State", "crack", "[I", true)
  | 5 => ("ConkerHeirs$State", "wear", "[I", true)
  | 6 => ("ConkerHeirs$State", "victories", "[I", true)
  | 7 => ("ConkerHeirs$State", "boasts", "[I", true)
  | 8 => ("ConkerHeirs$State", "how", "[I", true)
  | 9 => ("ConkerHeirs$State", "smashedBy", "[I", true)
  | 10 => ("ConkerHeirs$State", "conkers", "I", false)
  | 11 => ("ConkerHeirs$State", "lostVictories", "I", false)
  | _ => ("ConkerHeirs$State", "strikes", "I", false)
def tyX4 : Nat → FieldType := fun k => match k with
  | 0 => .array .int
  | 1 => .array .int
  | 2 => .array .int
  | 3 => .array .int
  | 4 => .array .int
  | 5 => .array .int
  | 6 => .array .int
  | 7 => .array .int
  | 8 => .array .int
  | 9 => .array .int
  | 10 => .int
  | 11 => .int
  | _ => .int
abbrev wsX40 : List Cond := u_ws RX4 TX4 13
theorem nmX4 : ∀ a, a < 13 → ∀ b, b < 13 → a ≠ b → (TX4 a).2.1 ≠ (TX4 b).2.1 := by decide +kernel
theorem tyX4_ok : ∀ k, k < 13 → parseFieldDescriptor (TX4 k).2.2.1 = some (tyX4 k) := by decide +kernel
abbrev cX4_init : ByteArray := prog_6_method_1_code
def yX4_init : MethodName := ⟨RX4, "<init>", "()V"⟩
abbrev cX4_copyFrom : ByteArray := prog_6_method_2_code
def yX4_copyFrom : MethodName := ⟨RX4, "copyFrom", "(LConkerHeirs$State;)V"⟩
abbrev cX4_hasConker : ByteArray := prog_6_method_3_code
def yX4_hasConker : MethodName := ⟨RX4, "hasConker", "(I)Z"⟩
abbrev cX4_strikeError : ByteArray := prog_6_method_4_code
def yX4_strikeError : MethodName := ⟨RX4, "strikeError", "(III)I"⟩
abbrev cX4_boutError : ByteArray := prog_6_method_5_code
def yX4_boutError : MethodName := ⟨RX4, "boutError", "(III)I"⟩
abbrev cX4_pairError : ByteArray := prog_6_method_6_code
def yX4_pairError : MethodName := ⟨RX4, "pairError", "(IIZ)I"⟩
abbrev cX4_mendError : ByteArray := prog_6_method_7_code
def yX4_mendError : MethodName := ⟨RX4, "mendError", "(I)I"⟩
abbrev cX4_fallenError : ByteArray := prog_6_method_8_code
def yX4_fallenError : MethodName := ⟨RX4, "fallenError", "(I)I"⟩
abbrev cX4_addConker : ByteArray := prog_6_method_9_code
def yX4_addConker : MethodName := ⟨RX4, "addConker", "(II)I"⟩
abbrev cX4_threadAgain : ByteArray := prog_6_method_10_code
def yX4_threadAgain : MethodName := ⟨RX4, "threadAgain", "(I)I"⟩
abbrev cX4_crush : ByteArray := prog_6_method_11_code
def yX4_crush : MethodName := ⟨RX4, "crush", "(I)I"⟩
abbrev cX4_settleBoast : ByteArray := prog_6_method_12_code
def yX4_settleBoast : MethodName := ⟨RX4, "settleBoast", "(II)I"⟩
abbrev cX4_hit : ByteArray := prog_6_method_13_code
def yX4_hit : MethodName := ⟨RX4, "hit", "(III)I"⟩
abbrev cX4_fight : ByteArray := prog_6_method_14_code
def yX4_fight : MethodName := ⟨RX4, "fight", "(IILConkerHeirs$Draws;)I"⟩
abbrev cX4_settleSmashes : ByteArray := prog_6_method_15_code
def yX4_settleSmashes : MethodName := ⟨RX4, "settleSmashes", "(II)V"⟩
abbrev cX4_inherit : ByteArray := prog_6_method_16_code
def yX4_inherit : MethodName := ⟨RX4, "inherit", "(II)V"⟩
abbrev cX4_takeVictoriesOfSmashed : ByteArray := prog_6_method_17_code
def yX4_takeVictoriesOfSmashed : MethodName := ⟨RX4, "takeVictoriesOfSmashed", "(I)I"⟩
abbrev cX4_fallIfWorn : ByteArray := prog_6_method_18_code
def yX4_fallIfWorn : MethodName := ⟨RX4, "fallIfWorn", "(I)V"⟩
abbrev cX4_outcome : ByteArray := prog_6_method_19_code
def yX4_outcome : MethodName := ⟨RX4, "outcome", "(III)I"⟩
abbrev cX4_quotient : ByteArray := prog_6_method_20_code
def yX4_quotient : MethodName := ⟨RX4, "quotient", "(II)I"⟩
abbrev cX4_areInPlay : ByteArray := prog_6_method_21_code
def yX4_areInPlay : MethodName := ⟨RX4, "areInPlay", "(II)Z"⟩
abbrev cX4_isOf : ByteArray := prog_6_method_22_code
def yX4_isOf : MethodName := ⟨RX4, "isOf", "(II)Z"⟩
abbrev cX4_conkersBeing : ByteArray := prog_6_method_23_code
def yX4_conkersBeing : MethodName := ⟨RX4, "conkersBeing", "(II)I"⟩
abbrev cX4_victoriesOf : ByteArray := prog_6_method_24_code
def yX4_victoriesOf : MethodName := ⟨RX4, "victoriesOf", "(I)I"⟩
abbrev cX4_conkerToSend : ByteArray := prog_6_method_25_code
def yX4_conkerToSend : MethodName := ⟨RX4, "conkerToSend", "(I)I"⟩
abbrev cX4_conkerAtRank : ByteArray := prog_6_method_26_code
def yX4_conkerAtRank : MethodName := ⟨RX4, "conkerAtRank", "(I)I"⟩
abbrev cX4_conkersAheadOf : ByteArray := prog_6_method_27_code
def yX4_conkersAheadOf : MethodName := ⟨RX4, "conkersAheadOf", "(I)I"⟩
abbrev cX4_conkersSmashedBy : ByteArray := prog_6_method_28_code
def yX4_conkersSmashedBy : MethodName := ⟨RX4, "conkersSmashedBy", "(I)I"⟩
abbrev cX4_conkersWithHeir : ByteArray := prog_6_method_29_code
def yX4_conkersWithHeir : MethodName := ⟨RX4, "conkersWithHeir", "()I"⟩
abbrev cX4_lengthOfLine : ByteArray := prog_6_method_30_code
def yX4_lengthOfLine : MethodName := ⟨RX4, "lengthOfLine", "(I)I"⟩
abbrev cX4_isInLineOf : ByteArray := prog_6_method_31_code
def yX4_isInLineOf : MethodName := ⟨RX4, "isInLineOf", "(II)Z"⟩
abbrev cX4_boastsTold : ByteArray := prog_6_method_32_code
def yX4_boastsTold : MethodName := ⟨RX4, "boastsTold", "()I"⟩
abbrev cX4_boastsTooHigh : ByteArray := prog_6_method_33_code
def yX4_boastsTooHigh : MethodName := ⟨RX4, "boastsTooHigh", "()I"⟩
def RX5 : String := "ConkerHeirs"
def TX5 : u_T := fun k => match k with
  | 0 => ("ConkerHeirs", "now", "LConkerHeirs$State;", true)
  | 1 => ("ConkerHeirs", "snapshot", "LConkerHeirs$State;", true)
  | 2 => ("ConkerHeirs", "trial", "LConkerHeirs$State;", true)
  | 3 => ("ConkerHeirs", "history", "LConkerHeirs$History;", true)
  | 4 => ("ConkerHeirs", "script", "LConkerHeirs$Script;", true)
  | 5 => ("ConkerHeirs", "draws", "LConkerHeirs$Draws;", true)
  | 6 => ("ConkerHeirs", "row", "LConkerHeirs$Row;", true)
  | _ => ("ConkerHeirs", "hasSnapshot", "Z", false)
def tyX5 : Nat → FieldType := fun k => match k with
  | 0 => .object "ConkerHeirs$State"
  | 1 => .object "ConkerHeirs$State"
  | 2 => .object "ConkerHeirs$State"
  | 3 => .object "ConkerHeirs$History"
  | 4 => .object "ConkerHeirs$Script"
  | 5 => .object "ConkerHeirs$Draws"
  | 6 => .object "ConkerHeirs$Row"
  | _ => .boolean
abbrev wsX50 : List Cond := u_ws RX5 TX5 8
theorem nmX5 : ∀ a, a < 8 → ∀ b, b < 8 → a ≠ b → (TX5 a).2.1 ≠ (TX5 b).2.1 := by decide +kernel
theorem tyX5_ok : ∀ k, k < 8 → parseFieldDescriptor (TX5 k).2.2.1 = some (tyX5 k) := by decide +kernel
abbrev cX5_init : ByteArray := prog_1_method_1_code
def yX5_init : MethodName := ⟨RX5, "<init>", "()V"⟩
abbrev cX5_thread : ByteArray := prog_1_method_2_code
def yX5_thread : MethodName := ⟨RX5, "thread", "(II)I"⟩
abbrev cX5_give : ByteArray := prog_1_method_3_code
def yX5_give : MethodName := ⟨RX5, "give", "(II)I"⟩
abbrev cX5_strike : ByteArray := prog_1_method_4_code
def yX5_strike : MethodName := ⟨RX5, "strike", "(III)I"⟩
abbrev cX5_mend : ByteArray := prog_1_method_5_code
def yX5_mend : MethodName := ⟨RX5, "mend", "(I)I"⟩
abbrev cX5_stamp : ByteArray := prog_1_method_6_code
def yX5_stamp : MethodName := ⟨RX5, "stamp", "(I)I"⟩
abbrev cX5_boast : ByteArray := prog_1_method_7_code
def yX5_boast : MethodName := ⟨RX5, "boast", "(II)I"⟩
abbrev cX5_doubt : ByteArray := prog_1_method_8_code
def yX5_doubt : MethodName := ⟨RX5, "doubt", "(II)I"⟩
abbrev cX5_bout : ByteArray := prog_1_method_9_code
def yX5_bout : MethodName := ⟨RX5, "bout", "(III)I"⟩
abbrev cX5_round : ByteArray := prog_1_method_10_code
def yX5_round : MethodName := ⟨RX5, "round", "(I)I"⟩
abbrev cX5_append : ByteArray := prog_1_method_11_code
def yX5_append : MethodName := ⟨RX5, "append", "(I)I"⟩
abbrev cX5_clearText : ByteArray := prog_1_method_12_code
def yX5_clearText : MethodName := ⟨RX5, "clearText", "()I"⟩
abbrev cX5_fault : ByteArray := prog_1_method_13_code
def yX5_fault : MethodName := ⟨RX5, "fault", "()I"⟩
abbrev cX5_run : ByteArray := prog_1_method_14_code
def yX5_run : MethodName := ⟨RX5, "run", "()I"⟩
abbrev cX5_undo : ByteArray := prog_1_method_15_code
def yX5_undo : MethodName := ⟨RX5, "undo", "()I"⟩
abbrev cX5_save : ByteArray := prog_1_method_16_code
def yX5_save : MethodName := ⟨RX5, "save", "()I"⟩
abbrev cX5_restore : ByteArray := prog_1_method_17_code
def yX5_restore : MethodName := ⟨RX5, "restore", "()I"⟩
abbrev cX5_conker : ByteArray := prog_1_method_18_code
def yX5_conker : MethodName := ⟨RX5, "conker", "(II)I"⟩
abbrev cX5_player : ByteArray := prog_1_method_19_code
def yX5_player : MethodName := ⟨RX5, "player", "(II)I"⟩
abbrev cX5_ranked : ByteArray := prog_1_method_20_code
def yX5_ranked : MethodName := ⟨RX5, "ranked", "(I)I"⟩
abbrev cX5_line : ByteArray := prog_1_method_21_code
def yX5_line : MethodName := ⟨RX5, "line", "(I)I"⟩
abbrev cX5_count : ByteArray := prog_1_method_22_code
def yX5_count : MethodName := ⟨RX5, "count", "(I)I"⟩
abbrev cX5_ifStruck : ByteArray := prog_1_method_23_code
def yX5_ifStruck : MethodName := ⟨RX5, "ifStruck", "(III)I"⟩
abbrev cX5_leastSwing : ByteArray := prog_1_method_24_code
def yX5_leastSwing : MethodName := ⟨RX5, "leastSwing", "(II)I"⟩
abbrev cX5_winner : ByteArray := prog_1_method_25_code
def yX5_winner : MethodName := ⟨RX5, "winner", "(III)I"⟩
abbrev cX5_share : ByteArray := prog_1_method_26_code
def yX5_share : MethodName := ⟨RX5, "share", "(I)F"⟩
abbrev cX5_isWithin : ByteArray := prog_1_method_27_code
def yX5_isWithin : MethodName := ⟨RX5, "isWithin", "(III)Z"⟩
abbrev cX5_isPlayer : ByteArray := prog_1_method_28_code
def yX5_isPlayer : MethodName := ⟨RX5, "isPlayer", "(I)Z"⟩
abbrev cX5_tryHit : ByteArray := prog_1_method_29_code
def yX5_tryHit : MethodName := ⟨RX5, "tryHit", "(III)I"⟩
abbrev cX5_carryOutOrder : ByteArray := prog_1_method_30_code
def yX5_carryOutOrder : MethodName := ⟨RX5, "carryOutOrder", "()I"⟩
def RX6 : String := "ConkerHeirsModel"
def TX6 : u_T := fun k => match k with
  | 0 => ("ConkerHeirsModel", "s", "[I", true)
  | 1 => ("ConkerHeirsModel", "states", "I", false)
  | 2 => ("ConkerHeirsModel", "isSaved", "Z", false)
  | 3 => ("ConkerHeirsModel", "text", "[I", true)
  | 4 => ("ConkerHeirsModel", "typed", "I", false)
  | 5 => ("ConkerHeirsModel", "x", "I", false)
  | 6 => ("ConkerHeirsModel", "row", "[I", true)
  | 7 => ("ConkerHeirsModel", "sent", "[I", true)
  | 8 => ("ConkerHeirsModel", "spot", "I", false)
  | 9 => ("ConkerHeirsModel", "letter", "I", false)
  | 10 => ("ConkerHeirsModel", "one", "I", false)
  | 11 => ("ConkerHeirsModel", "two", "I", false)
  | _ => ("ConkerHeirsModel", "three", "I", false)
def tyX6 : Nat → FieldType := fun k => match k with
  | 0 => .array .int
  | 1 => .int
  | 2 => .boolean
  | 3 => .array .int
  | 4 => .int
  | 5 => .int
  | 6 => .array .int
  | 7 => .array .int
  | 8 => .int
  | 9 => .int
  | 10 => .int
  | 11 => .int
  | _ => .int
abbrev wsX60 : List Cond := u_ws RX6 TX6 13
theorem nmX6 : ∀ a, a < 13 → ∀ b, b < 13 → a ≠ b → (TX6 a).2.1 ≠ (TX6 b).2.1 := by decide +kernel
theorem tyX6_ok : ∀ k, k < 13 → parseFieldDescriptor (TX6 k).2.2.1 = some (tyX6 k) := by decide +kernel
abbrev cX6_init : ByteArray := prog_8_method_1_code
def yX6_init : MethodName := ⟨RX6, "<init>", "()V"⟩
abbrev cX6_in : ByteArray := prog_8_method_3_code
def yX6_in : MethodName := ⟨RX6, "in", "(III)Z"⟩
abbrev cX6_flag : ByteArray := prog_8_method_4_code
def yX6_flag : MethodName := ⟨RX6, "flag", "(Z)I"⟩
abbrev cX6_less : ByteArray := prog_8_method_5_code
def yX6_less : MethodName := ⟨RX6, "less", "(II)I"⟩
abbrev cX6_copies : ByteArray := prog_8_method_6_code
def yX6_copies : MethodName := ⟨RX6, "copies", "(II)V"⟩
abbrev cX6_records : ByteArray := prog_8_method_7_code
def yX6_records : MethodName := ⟨RX6, "records", "()V"⟩
abbrev cX6_at : ByteArray := prog_8_method_8_code
def yX6_at : MethodName := ⟨RX6, "at", "(II)I"⟩
abbrev cX6_smashes : ByteArray := prog_8_method_9_code
def yX6_smashes : MethodName := ⟨RX6, "smashes", "(II)V"⟩
abbrev cX6_strikes : ByteArray := prog_8_method_10_code
def yX6_strikes : MethodName := ⟨RX6, "strikes", "(IIII)I"⟩
abbrev cX6_goesOn : ByteArray := prog_8_method_11_code
def yX6_goesOn : MethodName := ⟨RX6, "goesOn", "()V"⟩
abbrev cX6_fights : ByteArray := prog_8_method_12_code
def yX6_fights : MethodName := ⟨RX6, "fights", "(III)I"⟩
abbrev cX6_isConker : ByteArray := prog_8_method_13_code
def yX6_isConker : MethodName := ⟨RX6, "isConker", "(I)Z"⟩
abbrev cX6_isPlayer : ByteArray := prog_8_method_14_code
def yX6_isPlayer : MethodName := ⟨RX6, "isPlayer", "(I)Z"⟩
abbrev cX6_pairError : ByteArray := prog_8_method_15_code
def yX6_pairError : MethodName := ⟨RX6, "pairError", "(IIZ)I"⟩
abbrev cX6_strikeError : ByteArray := prog_8_method_16_code
def yX6_strikeError : MethodName := ⟨RX6, "strikeError", "(III)I"⟩
abbrev cX6_spare : ByteArray := prog_8_method_17_code
def yX6_spare : MethodName := ⟨RX6, "spare", "(I)I"⟩
abbrev cX6_mendError : ByteArray := prog_8_method_18_code
def yX6_mendError : MethodName := ⟨RX6, "mendError", "(I)I"⟩
abbrev cX6_stampError : ByteArray := prog_8_method_19_code
def yX6_stampError : MethodName := ⟨RX6, "stampError", "(I)I"⟩
abbrev cX6_mends : ByteArray := prog_8_method_20_code
def yX6_mends : MethodName := ⟨RX6, "mends", "(I)I"⟩
abbrev cX6_stamps : ByteArray := prog_8_method_21_code
def yX6_stamps : MethodName := ⟨RX6, "stamps", "(I)I"⟩
abbrev cX6_thread : ByteArray := prog_8_method_22_code
def yX6_thread : MethodName := ⟨RX6, "thread", "(II)I"⟩
abbrev cX6_give : ByteArray := prog_8_method_23_code
def yX6_give : MethodName := ⟨RX6, "give", "(II)I"⟩
abbrev cX6_strike : ByteArray := prog_8_method_24_code
def yX6_strike : MethodName := ⟨RX6, "strike", "(III)I"⟩
abbrev cX6_mend : ByteArray := prog_8_method_25_code
def yX6_mend : MethodName := ⟨RX6, "mend", "(I)I"⟩
abbrev cX6_stamp : ByteArray := prog_8_method_26_code
def yX6_stamp : MethodName := ⟨RX6, "stamp", "(I)I"⟩
abbrev cX6_boast : ByteArray := prog_8_method_27_code
def yX6_boast : MethodName := ⟨RX6, "boast", "(II)I"⟩
abbrev cX6_doubt : ByteArray := prog_8_method_28_code
def yX6_doubt : MethodName := ⟨RX6, "doubt", "(II)I"⟩
abbrev cX6_boutError : ByteArray := prog_8_method_29_code
def yX6_boutError : MethodName := ⟨RX6, "boutError", "(III)I"⟩
abbrev cX6_bout : ByteArray := prog_8_method_30_code
def yX6_bout : MethodName := ⟨RX6, "bout", "(III)I"⟩
abbrev cX6_best : ByteArray := prog_8_method_31_code
def yX6_best : MethodName := ⟨RX6, "best", "(I)I"⟩
abbrev cX6_lines : ByteArray := prog_8_method_32_code
def yX6_lines : MethodName := ⟨RX6, "lines", "()I"⟩
abbrev cX6_round : ByteArray := prog_8_method_33_code
def yX6_round : MethodName := ⟨RX6, "round", "(I)I"⟩
abbrev cX6_append : ByteArray := prog_8_method_34_code
def yX6_append : MethodName := ⟨RX6, "append", "(I)I"⟩
abbrev cX6_clearText : ByteArray := prog_8_method_35_code
def yX6_clearText : MethodName := ⟨RX6, "clearText", "()I"⟩
abbrev cX6_isHere : ByteArray := prog_8_method_36_code
def yX6_isHere : MethodName := ⟨RX6, "isHere", "(II)Z"⟩
abbrev cX6_takes : ByteArray := prog_8_method_37_code
def yX6_takes : MethodName := ⟨RX6, "takes", "(I)Z"⟩
abbrev cX6_number : ByteArray := prog_8_method_38_code
def yX6_number : MethodName := ⟨RX6, "number", "()I"⟩
abbrev cX6_readsOrder : ByteArray := prog_8_method_39_code
def yX6_readsOrder : MethodName := ⟨RX6, "readsOrder", "()Z"⟩
abbrev cX6_fault : ByteArray := prog_8_method_40_code
def yX6_fault : MethodName := ⟨RX6, "fault", "()I"⟩
abbrev cX6_orderError : ByteArray := prog_8_method_41_code
def yX6_orderError : MethodName := ⟨RX6, "orderError", "()I"⟩
abbrev cX6_does : ByteArray := prog_8_method_42_code
def yX6_does : MethodName := ⟨RX6, "does", "()I"⟩
abbrev cX6_run : ByteArray := prog_8_method_43_code
def yX6_run : MethodName := ⟨RX6, "run", "()I"⟩
abbrev cX6_undo : ByteArray := prog_8_method_44_code
def yX6_undo : MethodName := ⟨RX6, "undo", "()I"⟩
abbrev cX6_conkers : ByteArray := prog_8_method_45_code
def yX6_conkers : MethodName := ⟨RX6, "conkers", "(II)I"⟩
abbrev cX6_save : ByteArray := prog_8_method_46_code
def yX6_save : MethodName := ⟨RX6, "save", "()I"⟩
abbrev cX6_restore : ByteArray := prog_8_method_47_code
def yX6_restore : MethodName := ⟨RX6, "restore", "()I"⟩
abbrev cX6_heirOf : ByteArray := prog_8_method_48_code
def yX6_heirOf : MethodName := ⟨RX6, "heirOf", "(I)I"⟩
abbrev cX6_conker : ByteArray := prog_8_method_49_code
def yX6_conker : MethodName := ⟨RX6, "conker", "(II)I"⟩
abbrev cX6_victories : ByteArray := prog_8_method_50_code
def yX6_victories : MethodName := ⟨RX6, "victories", "(I)I"⟩
abbrev cX6_player : ByteArray := prog_8_method_51_code
def yX6_player : MethodName := ⟨RX6, "player", "(II)I"⟩
abbrev cX6_ahead : ByteArray := prog_8_method_52_code
def yX6_ahead : MethodName := ⟨RX6, "ahead", "(I)I"⟩
abbrev cX6_ranked : ByteArray := prog_8_method_53_code
def yX6_ranked : MethodName := ⟨RX6, "ranked", "(I)I"⟩
abbrev cX6_isInLine : ByteArray := prog_8_method_54_code
def yX6_isInLine : MethodName := ⟨RX6, "isInLine", "(II)Z"⟩
abbrev cX6_line : ByteArray := prog_8_method_55_code
def yX6_line : MethodName := ⟨RX6, "line", "(I)I"⟩
abbrev cX6_boasts : ByteArray := prog_8_method_56_code
def yX6_boasts : MethodName := ⟨RX6, "boasts", "(Z)I"⟩
abbrev cX6_count : ByteArray := prog_8_method_57_code
def yX6_count : MethodName := ⟨RX6, "count", "(I)I"⟩
abbrev cX6_ifStruck : ByteArray := prog_8_method_58_code
def yX6_ifStruck : MethodName := ⟨RX6, "ifStruck", "(III)I"⟩
abbrev cX6_leastSwing : ByteArray := prog_8_method_59_code
def yX6_leastSwing : MethodName := ⟨RX6, "leastSwing", "(II)I"⟩
abbrev cX6_winner : ByteArray := prog_8_method_60_code
def yX6_winner : MethodName := ⟨RX6, "winner", "(III)I"⟩
abbrev cX6_share : ByteArray := prog_8_method_61_code
def yX6_share : MethodName := ⟨RX6, "share", "(I)F"⟩
def RJ9 : String := "java/lang/Math"
def TJ9 : u_T := fun k => match k with
  | _ => ("", "", "", false)
def tyJ9 : Nat → FieldType := fun k => match k with
  | _ => .int
abbrev wsJ90 : List Cond := u_ws RJ9 TJ9 0
theorem nmJ9 : ∀ a, a < 0 → ∀ b, b < 0 → a ≠ b → (TJ9 a).2.1 ≠ (TJ9 b).2.1 := by decide +kernel
theorem tyJ9_ok : ∀ k, k < 0 → parseFieldDescriptor (TJ9 k).2.2.1 = some (tyJ9 k) := by decide +kernel
abbrev cJ9_max_7cf53 : ByteArray := prog_9_method_65_code
def yJ9_max_7cf53 : MethodName := ⟨RJ9, "max", "(II)I"⟩
abbrev cJ9_min_7cf53 : ByteArray := prog_9_method_69_code
def yJ9_min_7cf53 : MethodName := ⟨RJ9, "min", "(II)I"⟩
def RJ10 : String := "java/lang/System"
def TJ10 : u_T := fun k => match k with
  | _ => ("", "", "", false)
def tyJ10 : Nat → FieldType := fun k => match k with
  | _ => .int
abbrev wsJ100 : List Cond := u_ws RJ10 TJ10 0
theorem nmJ10 : ∀ a, a < 0 → ∀ b, b < 0 → a ≠ b → (TJ10 a).2.1 ≠ (TJ10 b).2.1 := by decide +kernel
theorem tyJ10_ok : ∀ k, k < 0 → parseFieldDescriptor (TJ10 k).2.2.1 = some (tyJ10 k) := by decide +kernel
def RL : String := "ConkerHeirsLaw"
abbrev cL_law : ByteArray := code
def yL_law : MethodName := ⟨RL, "law", "([I)Z"⟩
def wsX0_init : List Cond := .code yX0_init cX0_init 1 none :: ([.methodLink RX0 1 objectInit, .instanceMethod objectInit, .code objectInit ⟨#[0xb1]⟩ 1 none, .fieldLink RX0 7 "ConkerHeirs$Draws" "x" "I"] ++ wsX00)
def wsX0_begin : List Cond := .code yX0_begin cX0_begin 2 none :: ([.fieldLink RX0 7 "ConkerHeirs$Draws" "x" "I"] ++ wsX00)
def wsX0_next : List Cond := .code yX0_next cX0_next 1 (some .int) :: ([.fieldLink RX0 7 "ConkerHeirs$Draws" "x" "I", .constant RX0 13 (65536)] ++ wsX00)
def wsX0_swing : List Cond := .code yX0_swing cX0_swing 1 (some .int) :: ([.methodLink RX0 14 yX0_next, .instanceMethod yX0_next, .selects RX0 yX0_next yX0_next, .initialized RX0, .code yX0_next cX0_next 1 (some .int), .fieldLink RX0 7 "ConkerHeirs$Draws" "x" "I", .constant RX0 13 (65536)] ++ wsX00)
def wsX4_init : List Cond := .code yX4_init cX4_init 2 none :: ([.methodLink RX4 3 objectInit, .instanceMethod objectInit, .code objectInit ⟨#[0xb1]⟩ 1 none, .arrayClass .int, .fieldLink RX4 9 "ConkerHeirs$State" "strings" "[I", .fieldLink RX4 15 "ConkerHeirs$State" "shame" "[I", .fieldLink RX4 18 "ConkerHeirs$State" "owner" "[I", .fieldLink RX4 21 "ConkerHeirs$State" "hardness" "[I", .fieldLink RX4 24 "ConkerHeirs$State" "crack" "[I", .fieldLink RX4 27 "ConkerHeirs$State" "wear" "[I", .fieldLink RX4 30 "ConkerHeirs$State" "victories" "[I", .fieldLink RX4 33 "ConkerHeirs$State" "boasts" "[I", .fieldLink RX4 36 "ConkerHeirs$State" "how" "[I", .fieldLink RX4 39 "ConkerHeirs$State" "smashedBy" "[I", .fieldLink RX4 42 "ConkerHeirs$State" "conkers" "I", .fieldLink RX4 46 "ConkerHeirs$State" "lostVictories" "I", .fieldLink RX4 49 "ConkerHeirs$State" "strikes" "I"] ++ wsX40)
def wsX1_init_r1 : List Cond := [Cond.methodLink RX1 3 objectInit, Cond.instanceMethod objectInit, Cond.code objectInit ⟨#[0xb1]⟩ 1 none, Cond.classLink RX1 9 RX4, Cond.fieldLink RX1 11 "ConkerHeirs$History" "states" "[LConkerHeirs$State;", Cond.fieldLink RX1 17 "ConkerHeirs$History" "held" "I", Cond.instantiable RX4 13, Cond.initialized RX4, Cond.methodLink RX1 21 yX4_init, Cond.instanceMethod yX4_init, Cond.code yX4_init cX4_init 2 none, Cond.methodLink RX4 3 objectInit, Cond.arrayClass .int, Cond.fieldLink RX4 9 "ConkerHeirs$State" "strings" "[I", Cond.fieldLink RX4 15 "ConkerHeirs$State" "shame" "[I", Cond.fieldLink RX4 18 "ConkerHeirs$State" "owner" "[I", Cond.fieldLink RX4 21 "ConkerHeirs$State" "hardness" "[I", Cond.fieldLink RX4 24 "ConkerHeirs$State" "crack" "[I", Cond.fieldLink RX4 27 "ConkerHeirs$State" "wear" "[I", Cond.fieldLink RX4 30 "ConkerHeirs$State" "victories" "[I", Cond.fieldLink RX4 33 "ConkerHeirs$State" "boasts" "[I", Cond.fieldLink RX4 36 "ConkerHeirs$State" "how" "[I", Cond.fieldLink RX4 39 "ConkerHeirs$State" "smashedBy" "[I", Cond.fieldLink RX4 42 "ConkerHeirs$State" "conkers" "I"]
def wsX1_init_r2 : List Cond := [Cond.fieldLink RX4 46 "ConkerHeirs$State" "lostVictories" "I", Cond.fieldLink RX4 49 "ConkerHeirs$State" "strikes" "I"]
def wsX1_init : List Cond := .code yX1_init cX1_init 2 none :: ((wsX1_init_r1 ++ wsX1_init_r2) ++ wsX10 ++ wsX40)
def wsX1_dropOldest : List Cond := .code yX1_dropOldest cX1_dropOldest 3 none :: ([.fieldLink RX1 11 "ConkerHeirs$History" "states" "[LConkerHeirs$State;", .fieldLink RX1 17 "ConkerHeirs$History" "held" "I"] ++ wsX10)
def wsX4_copyFrom : List Cond := .code yX4_copyFrom cX4_copyFrom 2 none :: ([.fieldLink RX4 9 "ConkerHeirs$State" "strings" "[I", .methodLink RX4 52 arraycopyName, .native arraycopyName, .static arraycopyName, .initialized "java/lang/System", .fieldLink RX4 15 "ConkerHeirs$State" "shame" "[I", .fieldLink RX4 18 "ConkerHeirs$State" "owner" "[I", .fieldLink RX4 21 "ConkerHeirs$State" "hardness" "[I", .fieldLink RX4 24 "ConkerHeirs$State" "crack" "[I", .fieldLink RX4 27 "ConkerHeirs$State" "wear" "[I", .fieldLink RX4 30 "ConkerHeirs$State" "victories" "[I", .fieldLink RX4 33 "ConkerHeirs$State" "boasts" "[I", .fieldLink RX4 36 "ConkerHeirs$State" "how" "[I", .fieldLink RX4 39 "ConkerHeirs$State" "smashedBy" "[I", .fieldLink RX4 42 "ConkerHeirs$State" "conkers" "I", .fieldLink RX4 46 "ConkerHeirs$State" "lostVictories" "I", .fieldLink RX4 49 "ConkerHeirs$State" "strikes" "I"] ++ wsX40)
def wsX1_keep_r1 : List Cond := [Cond.fieldLink RX1 17 "ConkerHeirs$History" "held" "I", Cond.fieldLink RX1 11 "ConkerHeirs$History" "states" "[LConkerHeirs$State;", Cond.methodLink RX1 22 yX1_dropOldest, Cond.instanceMethod yX1_dropOldest, Cond.selects RX1 yX1_dropOldest yX1_dropOldest, Cond.initialized RX1, Cond.code yX1_dropOldest cX1_dropOldest 3 none, Cond.methodLink RX1 25 yX4_copyFrom, Cond.instanceMethod yX4_copyFrom, Cond.selects RX4 yX4_copyFrom yX4_copyFrom, Cond.initialized RX4, Cond.code yX4_copyFrom cX4_copyFrom 2 none, Cond.fieldLink RX4 9 "ConkerHeirs$State" "strings" "[I", Cond.methodLink RX4 52 arraycopyName, Cond.native arraycopyName, Cond.static arraycopyName, Cond.initialized "java/lang/System", Cond.fieldLink RX4 15 "ConkerHeirs$State" "shame" "[I", Cond.fieldLink RX4 18 "ConkerHeirs$State" "owner" "[I", Cond.fieldLink RX4 21 "ConkerHeirs$State" "hardness" "[I", Cond.fieldLink RX4 24 "ConkerHeirs$State" "crack" "[I", Cond.fieldLink RX4 27 "ConkerHeirs$State" "wear" "[I", Cond.fieldLink RX4 30 "ConkerHeirs$State" "victories" "[I", Cond.fieldLink RX4 33 "ConkerHeirs$State" "boasts" "[I"]
def wsX1_keep_r2 : List Cond := [Cond.fieldLink RX4 36 "ConkerHeirs$State" "how" "[I", Cond.fieldLink RX4 39 "ConkerHeirs$State" "smashedBy" "[I", Cond.fieldLink RX4 42 "ConkerHeirs$State" "conkers" "I", Cond.fieldLink RX4 46 "ConkerHeirs$State" "lostVictories" "I", Cond.fieldLink RX4 49 "ConkerHeirs$State" "strikes" "I"]
def wsX1_keep : List Cond := .code yX1_keep cX1_keep 2 none :: ((wsX1_keep_r1 ++ wsX1_keep_r2) ++ wsX10 ++ wsX40)
def wsX1_bringBack : List Cond := .code yX1_bringBack cX1_bringBack 2 (some .int) :: ([.fieldLink RX1 17 "ConkerHeirs$History" "held" "I", .fieldLink RX1 11 "ConkerHeirs$History" "states" "[LConkerHeirs$State;", .methodLink RX1 25 yX4_copyFrom, .instanceMethod yX4_copyFrom, .selects RX4 yX4_copyFrom yX4_copyFrom, .initialized RX4, .code yX4_copyFrom cX4_copyFrom 2 none, .fieldLink RX4 9 "ConkerHeirs$State" "strings" "[I", .methodLink RX4 52 arraycopyName, .native arraycopyName, .static arraycopyName, .initialized "java/lang/System", .fieldLink RX4 15 "ConkerHeirs$State" "shame" "[I", .fieldLink RX4 18 "ConkerHeirs$State" "owner" "[I", .fieldLink RX4 21 "ConkerHeirs$State" "hardness" "[I", .fieldLink RX4 24 "ConkerHeirs$State" "crack" "[I", .fieldLink RX4 27 "ConkerHeirs$State" "wear" "[I", .fieldLink RX4 30 "ConkerHeirs$State" "victories" "[I", .fieldLink RX4 33 "ConkerHeirs$State" "boasts" "[I", .fieldLink RX4 36 "ConkerHeirs$State" "how" "[I", .fieldLink RX4 39 "ConkerHeirs$State" "smashedBy" "[I", .fieldLink RX4 42 "ConkerHeirs$State" "conkers" "I", .fieldLink RX4 46 "ConkerHeirs$State" "lostVictories" "I", .fieldLink RX4 49 "ConkerHeirs$State" "strikes" "I"] ++ wsX10 ++ wsX40)
def wsX2_init : List Cond := .code yX2_init cX2_init 1 none :: ([.methodLink RX2 3 objectInit, .instanceMethod objectInit, .code objectInit ⟨#[0xb1]⟩ 1 none, .arrayClass .int, .fieldLink RX2 9 "ConkerHeirs$Row" "conkers" "[I", .fieldLink RX2 15 "ConkerHeirs$Row" "length" "I"] ++ wsX20)
def wsX4_conkerToSend : List Cond := .code yX4_conkerToSend cX4_conkerToSend 4 (some .int) :: ([.fieldLink RX4 42 "ConkerHeirs$State" "conkers" "I", .fieldLink RX4 36 "ConkerHeirs$State" "how" "[I", .fieldLink RX4 18 "ConkerHeirs$State" "owner" "[I", .fieldLink RX4 30 "ConkerHeirs$State" "victories" "[I"] ++ wsX40)
def wsX2_insert : List Cond := .code yX2_insert cX2_insert 5 none :: ([.fieldLink RX2 29 "ConkerHeirs$State" "shame" "[I", .fieldLink RX2 32 "ConkerHeirs$State" "owner" "[I", .fieldLink RX2 15 "ConkerHeirs$Row" "length" "I", .fieldLink RX2 9 "ConkerHeirs$Row" "conkers" "[I"] ++ wsX40 ++ wsX20)
def wsX2_lineUp : List Cond := .code yX2_lineUp cX2_lineUp 4 none :: ([.fieldLink RX2 15 "ConkerHeirs$Row" "length" "I", .methodLink RX2 19 yX4_conkerToSend, .instanceMethod yX4_conkerToSend, .selects RX4 yX4_conkerToSend yX4_conkerToSend, .initialized RX4, .code yX4_conkerToSend cX4_conkerToSend 4 (some .int), .fieldLink RX4 42 "ConkerHeirs$State" "conkers" "I", .fieldLink RX4 36 "ConkerHeirs$State" "how" "[I", .fieldLink RX4 18 "ConkerHeirs$State" "owner" "[I", .fieldLink RX4 30 "ConkerHeirs$State" "victories" "[I", .methodLink RX2 25 yX2_insert, .instanceMethod yX2_insert, .selects RX2 yX2_insert yX2_insert, .initialized RX2, .code yX2_insert cX2_insert 5 none, .fieldLink RX2 29 "ConkerHeirs$State" "shame" "[I", .fieldLink RX2 32 "ConkerHeirs$State" "owner" "[I", .fieldLink RX2 9 "ConkerHeirs$Row" "conkers" "[I"] ++ wsX20 ++ wsX40)
def wsX2_takeOut : List Cond := .code yX2_takeOut cX2_takeOut 4 (some .int) :: ([.fieldLink RX2 9 "ConkerHeirs$Row" "conkers" "[I", .fieldLink RX2 15 "ConkerHeirs$Row" "length" "I"] ++ wsX20)
def wsX3_init : List Cond := .code yX3_init cX3_init 1 none :: ([.methodLink RX3 3 objectInit, .instanceMethod objectInit, .code objectInit ⟨#[0xb1]⟩ 1 none, .arrayClass .char, .fieldLink RX3 9 "ConkerHeirs$Script" "signs" "[C", .fieldLink RX3 15 "ConkerHeirs$Script" "length" "I", .fieldLink RX3 19 "ConkerHeirs$Script" "at" "I", .fieldLink RX3 22 "ConkerHeirs$Script" "kind" "C", .fieldLink RX3 26 "ConkerHeirs$Script" "first" "I", .fieldLink RX3 29 "ConkerHeirs$Script" "second" "I", .fieldLink RX3 32 "ConkerHeirs$Script" "swing" "I"] ++ wsX30)
def wsX3_rewind : List Cond := .code yX3_rewind cX3_rewind 1 none :: ([.fieldLink RX3 19 "ConkerHeirs$Script" "at" "I"] ++ wsX30)
def wsX3_sign : List Cond := .code yX3_sign cX3_sign 1 (some .char) :: ([.fieldLink RX3 19 "ConkerHeirs$Script" "at" "I", .fieldLink RX3 15 "ConkerHeirs$Script" "length" "I", .fieldLink RX3 9 "ConkerHeirs$Script" "signs" "[C"] ++ wsX30)
def wsX3_digit : List Cond := .code yX3_digit cX3_digit 2 (some .int) :: ([.methodLink RX3 46 yX3_sign, .instanceMethod yX3_sign, .selects RX3 yX3_sign yX3_sign, .initialized RX3, .code yX3_sign cX3_sign 1 (some .char), .fieldLink RX3 19 "ConkerHeirs$Script" "at" "I", .fieldLink RX3 15 "ConkerHeirs$Script" "length" "I", .fieldLink RX3 9 "ConkerHeirs$Script" "signs" "[C"] ++ wsX30)
def wsX3_readConker : List Cond := .code yX3_readConker cX3_readConker 3 (some .int) :: ([.fieldLink RX3 19 "ConkerHeirs$Script" "at" "I", .methodLink RX3 54 yX3_digit, .instanceMethod yX3_digit, .selects RX3 yX3_digit yX3_digit, .initialized RX3, .code yX3_digit cX3_digit 2 (some .int), .methodLink RX3 46 yX3_sign, .instanceMethod yX3_sign, .selects RX3 yX3_sign yX3_sign, .code yX3_sign cX3_sign 1 (some .char), .fieldLink RX3 15 "ConkerHeirs$Script" "length" "I", .fieldLink RX3 9 "ConkerHeirs$Script" "signs" "[C"] ++ wsX30)
def wsX3_take : List Cond := .code yX3_take cX3_take 2 (some .boolean) :: ([.fieldLink RX3 19 "ConkerHeirs$Script" "at" "I", .methodLink RX3 46 yX3_sign, .instanceMethod yX3_sign, .selects RX3 yX3_sign yX3_sign, .initialized RX3, .code yX3_sign cX3_sign 1 (some .char), .fieldLink RX3 15 "ConkerHeirs$Script" "length" "I", .fieldLink RX3 9 "ConkerHeirs$Script" "signs" "[C"] ++ wsX30)
def wsX3_readOrder : List Cond := .code yX3_readOrder cX3_readOrder 1 (some .boolean) :: ([.fieldLink RX3 22 "ConkerHeirs$Script" "kind" "C", .fieldLink RX3 19 "ConkerHeirs$Script" "at" "I", .fieldLink RX3 26 "ConkerHeirs$Script" "first" "I", .fieldLink RX3 29 "ConkerHeirs$Script" "second" "I", .fieldLink RX3 32 "ConkerHeirs$Script" "swing" "I", .methodLink RX3 46 yX3_sign, .instanceMethod yX3_sign, .selects RX3 yX3_sign yX3_sign, .initialized RX3, .code yX3_sign cX3_sign 1 (some .char), .fieldLink RX3 15 "ConkerHeirs$Script" "length" "I", .fieldLink RX3 9 "ConkerHeirs$Script" "signs" "[C", .methodLink RX3 50 yX3_readConker, .instanceMethod yX3_readConker, .selects RX3 yX3_readConker yX3_readConker, .code yX3_readConker cX3_readConker 3 (some .int), .methodLink RX3 54 yX3_digit, .instanceMethod yX3_digit, .selects RX3 yX3_digit yX3_digit, .code yX3_digit cX3_digit 2 (some .int), .methodLink RX3 42 yX3_take, .instanceMethod yX3_take, .selects RX3 yX3_take yX3_take, .code yX3_take cX3_take 2 (some .boolean)] ++ wsX30)
def wsX3_findFault_r1 : List Cond := [Cond.fieldLink RX3 19 "ConkerHeirs$Script" "at" "I", Cond.fieldLink RX3 15 "ConkerHeirs$Script" "length" "I", Cond.methodLink RX3 35 yX3_rewind, Cond.instanceMethod yX3_rewind, Cond.selects RX3 yX3_rewind yX3_rewind, Cond.initialized RX3, Cond.code yX3_rewind cX3_rewind 1 none, Cond.methodLink RX3 38 yX3_readOrder, Cond.instanceMethod yX3_readOrder, Cond.selects RX3 yX3_readOrder yX3_readOrder, Cond.code yX3_readOrder cX3_readOrder 1 (some .boolean), Cond.fieldLink RX3 22 "ConkerHeirs$Script" "kind" "C", Cond.fieldLink RX3 26 "ConkerHeirs$Script" "first" "I", Cond.fieldLink RX3 29 "ConkerHeirs$Script" "second" "I", Cond.fieldLink RX3 32 "ConkerHeirs$Script" "swing" "I", Cond.methodLink RX3 46 yX3_sign, Cond.instanceMethod yX3_sign, Cond.selects RX3 yX3_sign yX3_sign, Cond.code yX3_sign cX3_sign 1 (some .char), Cond.fieldLink RX3 9 "ConkerHeirs$Script" "signs" "[C", Cond.methodLink RX3 50 yX3_readConker, Cond.instanceMethod yX3_readConker, Cond.selects RX3 yX3_readConker yX3_readConker, Cond.code yX3_readConker cX3_readConker 3 (some .int)]
def wsX3_findFault_r2 : List Cond := [Cond.methodLink RX3 54 yX3_digit, Cond.instanceMethod yX3_digit, Cond.selects RX3 yX3_digit yX3_digit, Cond.code yX3_digit cX3_digit 2 (some .int), Cond.methodLink RX3 42 yX3_take, Cond.instanceMethod yX3_take, Cond.selects RX3 yX3_take yX3_take, Cond.code yX3_take cX3_take 2 (some .boolean)]
def wsX3_findFault : List Cond := .code yX3_findFault cX3_findFault 2 (some .int) :: ((wsX3_findFault_r1 ++ wsX3_findFault_r2) ++ wsX30)
def wsX5_isWithin : List Cond := .code yX5_isWithin cX5_isWithin 3 (some .boolean) :: ([])
def wsX4_hasConker : List Cond := .code yX4_hasConker cX4_hasConker 2 (some .boolean) :: ([.fieldLink RX4 42 "ConkerHeirs$State" "conkers" "I", .static yX5_isWithin, .initialized RX5, .code yX5_isWithin cX5_isWithin 3 (some .boolean)] ++ wsX40)
def wsX4_areInPlay : List Cond := .code yX4_areInPlay cX4_areInPlay 3 (some .boolean) :: ([.fieldLink RX4 36 "ConkerHeirs$State" "how" "[I"] ++ wsX40)
def wsX4_pairError : List Cond := .code yX4_pairError cX4_pairError 4 (some .int) :: ([.fieldLink RX4 18 "ConkerHeirs$State" "owner" "[I", .methodLink RX4 67 yX4_hasConker, .instanceMethod yX4_hasConker, .selects RX4 yX4_hasConker yX4_hasConker, .initialized RX4, .code yX4_hasConker cX4_hasConker 2 (some .boolean), .fieldLink RX4 42 "ConkerHeirs$State" "conkers" "I", .static yX5_isWithin, .initialized RX5, .code yX5_isWithin cX5_isWithin 3 (some .boolean), .methodLink RX4 71 yX4_areInPlay, .instanceMethod yX4_areInPlay, .selects RX4 yX4_areInPlay yX4_areInPlay, .code yX4_areInPlay cX4_areInPlay 3 (some .boolean), .fieldLink RX4 36 "ConkerHeirs$State" "how" "[I"] ++ wsX40)
def wsX4_strikeError : List Cond := .code yX4_strikeError cX4_strikeError 4 (some .int) :: ([.static yX5_isWithin, .initialized RX5, .code yX5_isWithin cX5_isWithin 3 (some .boolean), .methodLink RX4 62 yX4_pairError, .instanceMethod yX4_pairError, .selects RX4 yX4_pairError yX4_pairError, .initialized RX4, .code yX4_pairError cX4_pairError 4 (some .int), .fieldLink RX4 18 "ConkerHeirs$State" "owner" "[I", .methodLink RX4 67 yX4_hasConker, .instanceMethod yX4_hasConker, .selects RX4 yX4_hasConker yX4_hasConker, .code yX4_hasConker cX4_hasConker 2 (some .boolean), .fieldLink RX4 42 "ConkerHeirs$State" "conkers" "I", .methodLink RX4 71 yX4_areInPlay, .instanceMethod yX4_areInPlay, .selects RX4 yX4_areInPlay yX4_areInPlay, .code yX4_areInPlay cX4_areInPlay 3 (some .boolean), .fieldLink RX4 36 "ConkerHeirs$State" "how" "[I"] ++ wsX40)
def wsX4_boutError : List Cond := .code yX4_boutError cX4_boutError 4 (some .int) :: ([.constant RX4 66 (65535), .static yX5_isWithin, .initialized RX5, .code yX5_isWithin cX5_isWithin 3 (some .boolean), .methodLink RX4 62 yX4_pairError, .instanceMethod yX4_pairError, .selects RX4 yX4_pairError yX4_pairError, .initialized RX4, .code yX4_pairError cX4_pairError 4 (some .int), .fieldLink RX4 18 "ConkerHeirs$State" "owner" "[I", .methodLink RX4 67 yX4_hasConker, .instanceMethod yX4_hasConker, .selects RX4 yX4_hasConker yX4_hasConker, .code yX4_hasConker cX4_hasConker 2 (some .boolean), .fieldLink RX4 42 "ConkerHeirs$State" "conkers" "I", .methodLink RX4 71 yX4_areInPlay, .instanceMethod yX4_areInPlay, .selects RX4 yX4_areInPlay yX4_areInPlay, .code yX4_areInPlay cX4_areInPlay 3 (some .boolean), .fieldLink RX4 36 "ConkerHeirs$State" "how" "[I"] ++ wsX40)
def wsX4_fallenError : List Cond := .code yX4_fallenError cX4_fallenError 2 (some .int) :: ([.fieldLink RX4 36 "ConkerHeirs$State" "how" "[I", .methodLink RX4 67 yX4_hasConker, .instanceMethod yX4_hasConker, .selects RX4 yX4_hasConker yX4_hasConker, .initialized RX4, .code yX4_hasConker cX4_hasConker 2 (some .boolean), .fieldLink RX4 42 "ConkerHeirs$State" "conkers" "I", .static yX5_isWithin, .initialized RX5, .code yX5_isWithin cX5_isWithin 3 (some .boolean)] ++ wsX40)
def wsX4_mendError : List Cond := .code yX4_mendError cX4_mendError 3 (some .int) :: ([.fieldLink RX4 9 "ConkerHeirs$State" "strings" "[I", .fieldLink RX4 18 "ConkerHeirs$State" "owner" "[I", .methodLink RX4 75 yX4_fallenError, .instanceMethod yX4_fallenError, .selects RX4 yX4_fallenError yX4_fallenError, .initialized RX4, .code yX4_fallenError cX4_fallenError 2 (some .int), .fieldLink RX4 36 "ConkerHeirs$State" "how" "[I", .methodLink RX4 67 yX4_hasConker, .instanceMethod yX4_hasConker, .selects RX4 yX4_hasConker yX4_hasConker, .code yX4_hasConker cX4_hasConker 2 (some .boolean), .fieldLink RX4 42 "ConkerHeirs$State" "conkers" "I", .static yX5_isWithin, .initialized RX5, .code yX5_isWithin cX5_isWithin 3 (some .boolean)] ++ wsX40)
def wsX4_addConker : List Cond := .code yX4_addConker cX4_addConker 4 (some .int) :: ([.fieldLink RX4 42 "ConkerHeirs$State" "conkers" "I", .fieldLink RX4 9 "ConkerHeirs$State" "strings" "[I", .fieldLink RX4 18 "ConkerHeirs$State" "owner" "[I", .fieldLink RX4 21 "ConkerHeirs$State" "hardness" "[I", .fieldLink RX4 24 "ConkerHeirs$State" "crack" "[I", .fieldLink RX4 27 "ConkerHeirs$State" "wear" "[I", .fieldLink RX4 30 "ConkerHeirs$State" "victories" "[I", .fieldLink RX4 33 "ConkerHeirs$State" "boasts" "[I", .fieldLink RX4 36 "ConkerHeirs$State" "how" "[I", .fieldLink RX4 39 "ConkerHeirs$State" "smashedBy" "[I"] ++ wsX40)
def wsX4_threadAgain : List Cond := .code yX4_threadAgain cX4_threadAgain 3 (some .int) :: ([.fieldLink RX4 18 "ConkerHeirs$State" "owner" "[I", .fieldLink RX4 9 "ConkerHeirs$State" "strings" "[I", .fieldLink RX4 27 "ConkerHeirs$State" "wear" "[I", .fieldLink RX4 36 "ConkerHeirs$State" "how" "[I"] ++ wsX40)
def wsX4_takeVictoriesOfSmashed : List Cond := .code yX4_takeVictoriesOfSmashed cX4_takeVictoriesOfSmashed 3 (some .int) :: ([.fieldLink RX4 30 "ConkerHeirs$State" "victories" "[I", .fieldLink RX4 33 "ConkerHeirs$State" "boasts" "[I", .fieldLink RX4 36 "ConkerHeirs$State" "how" "[I"] ++ wsX40)
def wsX4_crush : List Cond := .code yX4_crush cX4_crush 3 (some .int) :: ([.fieldLink RX4 46 "ConkerHeirs$State" "lostVictories" "I", .methodLink RX4 79 yX4_takeVictoriesOfSmashed, .instanceMethod yX4_takeVictoriesOfSmashed, .selects RX4 yX4_takeVictoriesOfSmashed yX4_takeVictoriesOfSmashed, .initialized RX4, .code yX4_takeVictoriesOfSmashed cX4_takeVictoriesOfSmashed 3 (some .int), .fieldLink RX4 30 "ConkerHeirs$State" "victories" "[I", .fieldLink RX4 33 "ConkerHeirs$State" "boasts" "[I", .fieldLink RX4 36 "ConkerHeirs$State" "how" "[I"] ++ wsX40)
def wsX4_settleBoast : List Cond := .code yX4_settleBoast cX4_settleBoast 4 (some .int) :: ([.fieldLink RX4 33 "ConkerHeirs$State" "boasts" "[I", .fieldLink RX4 30 "ConkerHeirs$State" "victories" "[I", .fieldLink RX4 18 "ConkerHeirs$State" "owner" "[I", .fieldLink RX4 15 "ConkerHeirs$State" "shame" "[I"] ++ wsX40)
def wsX4_quotient : List Cond := .code yX4_quotient cX4_quotient 2 (some .int) :: ([])
def wsX4_inherit : List Cond := .code yX4_inherit cX4_inherit 3 none :: ([.fieldLink RX4 30 "ConkerHeirs$State" "victories" "[I", .fieldLink RX4 39 "ConkerHeirs$State" "smashedBy" "[I", .methodLink RX4 79 yX4_takeVictoriesOfSmashed, .instanceMethod yX4_takeVictoriesOfSmashed, .selects RX4 yX4_takeVictoriesOfSmashed yX4_takeVictoriesOfSmashed, .initialized RX4, .code yX4_takeVictoriesOfSmashed cX4_takeVictoriesOfSmashed 3 (some .int), .fieldLink RX4 33 "ConkerHeirs$State" "boasts" "[I", .fieldLink RX4 36 "ConkerHeirs$State" "how" "[I"] ++ wsX40)
def wsX4_settleSmashes : List Cond := .code yX4_settleSmashes cX4_settleSmashes 5 none :: ([.fieldLink RX4 24 "ConkerHeirs$State" "crack" "[I", .methodLink RX4 115 yX4_crush, .instanceMethod yX4_crush, .selects RX4 yX4_crush yX4_crush, .initialized RX4, .code yX4_crush cX4_crush 3 (some .int), .fieldLink RX4 46 "ConkerHeirs$State" "lostVictories" "I", .methodLink RX4 79 yX4_takeVictoriesOfSmashed, .instanceMethod yX4_takeVictoriesOfSmashed, .selects RX4 yX4_takeVictoriesOfSmashed yX4_takeVictoriesOfSmashed, .code yX4_takeVictoriesOfSmashed cX4_takeVictoriesOfSmashed 3 (some .int), .fieldLink RX4 30 "ConkerHeirs$State" "victories" "[I", .fieldLink RX4 33 "ConkerHeirs$State" "boasts" "[I", .fieldLink RX4 36 "ConkerHeirs$State" "how" "[I", .methodLink RX4 118 yX4_inherit, .instanceMethod yX4_inherit, .selects RX4 yX4_inherit yX4_inherit, .code yX4_inherit cX4_inherit 3 none, .fieldLink RX4 39 "ConkerHeirs$State" "smashedBy" "[I"] ++ wsX40)
def wsX4_fallIfWorn : List Cond := .code yX4_fallIfWorn cX4_fallIfWorn 2 none :: ([.fieldLink RX4 36 "ConkerHeirs$State" "how" "[I", .fieldLink RX4 27 "ConkerHeirs$State" "wear" "[I"] ++ wsX40)
def wsX4_outcome : List Cond := .code yX4_outcome cX4_outcome 4 (some .int) :: ([.fieldLink RX4 36 "ConkerHeirs$State" "how" "[I"] ++ wsX40)
def wsX4_hit_r1 : List Cond := [Cond.fieldLink RX4 21 "ConkerHeirs$State" "hardness" "[I", Cond.fieldLink RX4 49 "ConkerHeirs$State" "strikes" "I", Cond.fieldLink RX4 24 "ConkerHeirs$State" "crack" "[I", Cond.methodLink RX4 86 Lib.Math.min.name, Cond.static Lib.Math.min.name, Cond.initialized "java/lang/Math", Cond.code Lib.Math.min.name Lib.Math.min.code 2 (some .int), Cond.fieldLink RX4 27 "ConkerHeirs$State" "wear" "[I", Cond.methodLink RX4 82 yX4_quotient, Cond.static yX4_quotient, Cond.initialized RX4, Cond.code yX4_quotient cX4_quotient 2 (some .int), Cond.methodLink RX4 91 yX4_settleSmashes, Cond.instanceMethod yX4_settleSmashes, Cond.selects RX4 yX4_settleSmashes yX4_settleSmashes, Cond.code yX4_settleSmashes cX4_settleSmashes 5 none, Cond.methodLink RX4 115 yX4_crush, Cond.instanceMethod yX4_crush, Cond.selects RX4 yX4_crush yX4_crush, Cond.code yX4_crush cX4_crush 3 (some .int), Cond.fieldLink RX4 46 "ConkerHeirs$State" "lostVictories" "I", Cond.methodLink RX4 79 yX4_takeVictoriesOfSmashed, Cond.instanceMethod yX4_takeVictoriesOfSmashed, Cond.selects RX4 yX4_takeVictoriesOfSmashed yX4_takeVictoriesOfSmashed]
def wsX4_hit_r2 : List Cond := [Cond.code yX4_takeVictoriesOfSmashed cX4_takeVictoriesOfSmashed 3 (some .int), Cond.fieldLink RX4 30 "ConkerHeirs$State" "victories" "[I", Cond.fieldLink RX4 33 "ConkerHeirs$State" "boasts" "[I", Cond.fieldLink RX4 36 "ConkerHeirs$State" "how" "[I", Cond.methodLink RX4 118 yX4_inherit, Cond.instanceMethod yX4_inherit, Cond.selects RX4 yX4_inherit yX4_inherit, Cond.code yX4_inherit cX4_inherit 3 none, Cond.fieldLink RX4 39 "ConkerHeirs$State" "smashedBy" "[I", Cond.methodLink RX4 95 yX4_fallIfWorn, Cond.instanceMethod yX4_fallIfWorn, Cond.selects RX4 yX4_fallIfWorn yX4_fallIfWorn, Cond.code yX4_fallIfWorn cX4_fallIfWorn 2 none, Cond.methodLink RX4 99 yX4_outcome, Cond.instanceMethod yX4_outcome, Cond.selects RX4 yX4_outcome yX4_outcome, Cond.code yX4_outcome cX4_outcome 4 (some .int)]
def wsX4_hit : List Cond := .code yX4_hit cX4_hit 6 (some .int) :: ((wsX4_hit_r1 ++ wsX4_hit_r2) ++ wsX40)
def wsX4_fight_r1 : List Cond := [Cond.methodLink RX4 86 Lib.Math.min.name, Cond.static Lib.Math.min.name, Cond.initialized "java/lang/Math", Cond.code Lib.Math.min.name Lib.Math.min.code 2 (some .int), Cond.methodLink RX4 103 Lib.Math.max.name, Cond.static Lib.Math.max.name, Cond.code Lib.Math.max.name Lib.Math.max.code 2 (some .int), Cond.methodLink RX4 71 yX4_areInPlay, Cond.instanceMethod yX4_areInPlay, Cond.selects RX4 yX4_areInPlay yX4_areInPlay, Cond.initialized RX4, Cond.code yX4_areInPlay cX4_areInPlay 3 (some .boolean), Cond.fieldLink RX4 36 "ConkerHeirs$State" "how" "[I", Cond.methodLink RX4 106 yX0_swing, Cond.instanceMethod yX0_swing, Cond.selects RX0 yX0_swing yX0_swing, Cond.initialized RX0, Cond.code yX0_swing cX0_swing 1 (some .int), Cond.methodLink RX0 14 yX0_next, Cond.instanceMethod yX0_next, Cond.selects RX0 yX0_next yX0_next, Cond.code yX0_next cX0_next 1 (some .int), Cond.fieldLink RX0 7 "ConkerHeirs$Draws" "x" "I", Cond.constant RX0 13 (65536)]
def wsX4_fight_r2 : List Cond := [Cond.methodLink RX4 112 yX4_hit, Cond.instanceMethod yX4_hit, Cond.selects RX4 yX4_hit yX4_hit, Cond.code yX4_hit cX4_hit 6 (some .int), Cond.fieldLink RX4 21 "ConkerHeirs$State" "hardness" "[I", Cond.fieldLink RX4 49 "ConkerHeirs$State" "strikes" "I", Cond.fieldLink RX4 24 "ConkerHeirs$State" "crack" "[I", Cond.fieldLink RX4 27 "ConkerHeirs$State" "wear" "[I", Cond.methodLink RX4 82 yX4_quotient, Cond.static yX4_quotient, Cond.code yX4_quotient cX4_quotient 2 (some .int), Cond.methodLink RX4 91 yX4_settleSmashes, Cond.instanceMethod yX4_settleSmashes, Cond.selects RX4 yX4_settleSmashes yX4_settleSmashes, Cond.code yX4_settleSmashes cX4_settleSmashes 5 none, Cond.methodLink RX4 115 yX4_crush, Cond.instanceMethod yX4_crush, Cond.selects RX4 yX4_crush yX4_crush, Cond.code yX4_crush cX4_crush 3 (some .int), Cond.fieldLink RX4 46 "ConkerHeirs$State" "lostVictories" "I", Cond.methodLink RX4 79 yX4_takeVictoriesOfSmashed, Cond.instanceMethod yX4_takeVictoriesOfSmashed, Cond.selects RX4 yX4_takeVictoriesOfSmashed yX4_takeVictoriesOfSmashed, Cond.code yX4_takeVictoriesOfSmashed cX4_takeVictoriesOfSmashed 3 (some .int)]
def wsX4_fight_r3 : List Cond := [Cond.fieldLink RX4 30 "ConkerHeirs$State" "victories" "[I", Cond.fieldLink RX4 33 "ConkerHeirs$State" "boasts" "[I", Cond.methodLink RX4 118 yX4_inherit, Cond.instanceMethod yX4_inherit, Cond.selects RX4 yX4_inherit yX4_inherit, Cond.code yX4_inherit cX4_inherit 3 none, Cond.fieldLink RX4 39 "ConkerHeirs$State" "smashedBy" "[I", Cond.methodLink RX4 95 yX4_fallIfWorn, Cond.instanceMethod yX4_fallIfWorn, Cond.selects RX4 yX4_fallIfWorn yX4_fallIfWorn, Cond.code yX4_fallIfWorn cX4_fallIfWorn 2 none, Cond.methodLink RX4 99 yX4_outcome, Cond.instanceMethod yX4_outcome, Cond.selects RX4 yX4_outcome yX4_outcome, Cond.code yX4_outcome cX4_outcome 4 (some .int)]
def wsX4_fight : List Cond := .code yX4_fight cX4_fight 8 (some .int) :: ((wsX4_fight_r1 ++ (wsX4_fight_r2 ++ wsX4_fight_r3)) ++ wsX40 ++ wsX00)
def wsX4_isOf : List Cond := .code yX4_isOf cX4_isOf 3 (some .boolean) :: ([.fieldLink RX4 18 "ConkerHeirs$State" "owner" "[I"] ++ wsX40)
def wsX4_conkersBeing : List Cond := .code yX4_conkersBeing cX4_conkersBeing 5 (some .int) :: ([.fieldLink RX4 42 "ConkerHeirs$State" "conkers" "I", .fieldLink RX4 36 "ConkerHeirs$State" "how" "[I", .methodLink RX4 121 yX4_isOf, .instanceMethod yX4_isOf, .selects RX4 yX4_isOf yX4_isOf, .initialized RX4, .code yX4_isOf cX4_isOf 3 (some .boolean), .fieldLink RX4 18 "ConkerHeirs$State" "owner" "[I"] ++ wsX40)
def wsX4_victoriesOf : List Cond := .code yX4_victoriesOf cX4_victoriesOf 4 (some .int) :: ([.fieldLink RX4 42 "ConkerHeirs$State" "conkers" "I", .fieldLink RX4 30 "ConkerHeirs$State" "victories" "[I", .methodLink RX4 121 yX4_isOf, .instanceMethod yX4_isOf, .selects RX4 yX4_isOf yX4_isOf, .initialized RX4, .code yX4_isOf cX4_isOf 3 (some .boolean), .fieldLink RX4 18 "ConkerHeirs$State" "owner" "[I"] ++ wsX40)
def wsX4_conkersAheadOf : List Cond := .code yX4_conkersAheadOf cX4_conkersAheadOf 6 (some .int) :: ([.fieldLink RX4 42 "ConkerHeirs$State" "conkers" "I", .fieldLink RX4 30 "ConkerHeirs$State" "victories" "[I", .fieldLink RX4 36 "ConkerHeirs$State" "how" "[I"] ++ wsX40)
def wsX4_conkerAtRank : List Cond := .code yX4_conkerAtRank cX4_conkerAtRank 3 (some .int) :: ([.fieldLink RX4 42 "ConkerHeirs$State" "conkers" "I", .fieldLink RX4 36 "ConkerHeirs$State" "how" "[I", .methodLink RX4 124 yX4_conkersAheadOf, .instanceMethod yX4_conkersAheadOf, .selects RX4 yX4_conkersAheadOf yX4_conkersAheadOf, .initialized RX4, .code yX4_conkersAheadOf cX4_conkersAheadOf 6 (some .int), .fieldLink RX4 30 "ConkerHeirs$State" "victories" "[I"] ++ wsX40)
def wsX4_conkersSmashedBy : List Cond := .code yX4_conkersSmashedBy cX4_conkersSmashedBy 4 (some .int) :: ([.fieldLink RX4 42 "ConkerHeirs$State" "conkers" "I", .fieldLink RX4 39 "ConkerHeirs$State" "smashedBy" "[I"] ++ wsX40)
def wsX4_conkersWithHeir : List Cond := .code yX4_conkersWithHeir cX4_conkersWithHeir 1 (some .int) :: ([.fieldLink RX4 42 "ConkerHeirs$State" "conkers" "I", .methodLink RX4 127 yX4_conkersSmashedBy, .instanceMethod yX4_conkersSmashedBy, .selects RX4 yX4_conkersSmashedBy yX4_conkersSmashedBy, .initialized RX4, .code yX4_conkersSmashedBy cX4_conkersSmashedBy 4 (some .int), .fieldLink RX4 39 "ConkerHeirs$State" "smashedBy" "[I"] ++ wsX40)
def wsX4_isInLineOf : List Cond := .code yX4_isInLineOf cX4_isInLineOf 5 (some .boolean) :: ([.fieldLink RX4 39 "ConkerHeirs$State" "smashedBy" "[I", .fieldLink RX4 42 "ConkerHeirs$State" "conkers" "I", .methodLink RX4 67 yX4_hasConker, .instanceMethod yX4_hasConker, .selects RX4 yX4_hasConker yX4_hasConker, .initialized RX4, .code yX4_hasConker cX4_hasConker 2 (some .boolean), .static yX5_isWithin, .initialized RX5, .code yX5_isWithin cX5_isWithin 3 (some .boolean)] ++ wsX40)
def wsX4_lengthOfLine : List Cond := .code yX4_lengthOfLine cX4_lengthOfLine 4 (some .int) :: ([.fieldLink RX4 42 "ConkerHeirs$State" "conkers" "I", .methodLink RX4 130 yX4_isInLineOf, .instanceMethod yX4_isInLineOf, .selects RX4 yX4_isInLineOf yX4_isInLineOf, .initialized RX4, .code yX4_isInLineOf cX4_isInLineOf 5 (some .boolean), .fieldLink RX4 39 "ConkerHeirs$State" "smashedBy" "[I", .methodLink RX4 67 yX4_hasConker, .instanceMethod yX4_hasConker, .selects RX4 yX4_hasConker yX4_hasConker, .code yX4_hasConker cX4_hasConker 2 (some .boolean), .static yX5_isWithin, .initialized RX5, .code yX5_isWithin cX5_isWithin 3 (some .boolean)] ++ wsX40)
def wsX4_boastsTold : List Cond := .code yX4_boastsTold cX4_boastsTold 3 (some .int) :: ([.fieldLink RX4 42 "ConkerHeirs$State" "conkers" "I", .fieldLink RX4 33 "ConkerHeirs$State" "boasts" "[I"] ++ wsX40)
def wsX4_boastsTooHigh : List Cond := .code yX4_boastsTooHigh cX4_boastsTooHigh 3 (some .int) :: ([.fieldLink RX4 42 "ConkerHeirs$State" "conkers" "I", .fieldLink RX4 33 "ConkerHeirs$State" "boasts" "[I", .fieldLink RX4 30 "ConkerHeirs$State" "victories" "[I"] ++ wsX40)
def wsX5_init_r1 : List Cond := [Cond.methodLink RX5 1 objectInit, Cond.instanceMethod objectInit, Cond.code objectInit ⟨#[0xb1]⟩ 1 none, Cond.classLink RX5 7 RX4, Cond.instantiable RX4 13, Cond.initialized RX4, Cond.fieldLink RX5 10 "ConkerHeirs" "now" "LConkerHeirs$State;", Cond.fieldLink RX5 16 "ConkerHeirs" "snapshot" "LConkerHeirs$State;", Cond.fieldLink RX5 19 "ConkerHeirs" "trial" "LConkerHeirs$State;", Cond.classLink RX5 22 RX1, Cond.instantiable RX1 2, Cond.initialized RX1, Cond.fieldLink RX5 25 "ConkerHeirs" "history" "LConkerHeirs$History;", Cond.classLink RX5 29 RX3, Cond.instantiable RX3 7, Cond.initialized RX3, Cond.fieldLink RX5 32 "ConkerHeirs" "script" "LConkerHeirs$Script;", Cond.classLink RX5 36 RX0, Cond.instantiable RX0 1, Cond.initialized RX0, Cond.fieldLink RX5 39 "ConkerHeirs" "draws" "LConkerHeirs$Draws;", Cond.classLink RX5 43 RX2, Cond.instantiable RX2 2, Cond.initialized RX2]
def wsX5_init_r2 : List Cond := [Cond.fieldLink RX5 46 "ConkerHeirs" "row" "LConkerHeirs$Row;", Cond.fieldLink RX5 50 "ConkerHeirs" "hasSnapshot" "Z", Cond.methodLink RX5 9 yX4_init, Cond.instanceMethod yX4_init, Cond.code yX4_init cX4_init 2 none, Cond.methodLink RX4 3 objectInit, Cond.arrayClass .int, Cond.fieldLink RX4 9 "ConkerHeirs$State" "strings" "[I", Cond.fieldLink RX4 15 "ConkerHeirs$State" "shame" "[I", Cond.fieldLink RX4 18 "ConkerHeirs$State" "owner" "[I", Cond.fieldLink RX4 21 "ConkerHeirs$State" "hardness" "[I", Cond.fieldLink RX4 24 "ConkerHeirs$State" "crack" "[I", Cond.fieldLink RX4 27 "ConkerHeirs$State" "wear" "[I", Cond.fieldLink RX4 30 "ConkerHeirs$State" "victories" "[I", Cond.fieldLink RX4 33 "ConkerHeirs$State" "boasts" "[I", Cond.fieldLink RX4 36 "ConkerHeirs$State" "how" "[I", Cond.fieldLink RX4 39 "ConkerHeirs$State" "smashedBy" "[I", Cond.fieldLink RX4 42 "ConkerHeirs$State" "conkers" "I", Cond.fieldLink RX4 46 "ConkerHeirs$State" "lostVictories" "I", Cond.fieldLink RX4 49 "ConkerHeirs$State" "strikes" "I", Cond.methodLink RX5 24 yX1_init, Cond.instanceMethod yX1_init, Cond.code yX1_init cX1_init 2 none, Cond.methodLink RX1 3 objectInit]
def wsX5_init_r3 : List Cond := [Cond.classLink RX1 9 RX4, Cond.fieldLink RX1 11 "ConkerHeirs$History" "states" "[LConkerHeirs$State;", Cond.fieldLink RX1 17 "ConkerHeirs$History" "held" "I", Cond.methodLink RX1 21 yX4_init, Cond.instanceMethod yX3_init, Cond.code yX3_init cX3_init 1 none, Cond.methodLink RX3 3 objectInit, Cond.arrayClass .char, Cond.fieldLink RX3 9 "ConkerHeirs$Script" "signs" "[C", Cond.fieldLink RX3 15 "ConkerHeirs$Script" "length" "I", Cond.fieldLink RX3 19 "ConkerHeirs$Script" "at" "I", Cond.fieldLink RX3 22 "ConkerHeirs$Script" "kind" "C", Cond.fieldLink RX3 26 "ConkerHeirs$Script" "first" "I", Cond.fieldLink RX3 29 "ConkerHeirs$Script" "second" "I", Cond.fieldLink RX3 32 "ConkerHeirs$Script" "swing" "I", Cond.instanceMethod yX0_init, Cond.code yX0_init cX0_init 1 none, Cond.methodLink RX0 1 objectInit, Cond.fieldLink RX0 7 "ConkerHeirs$Draws" "x" "I", Cond.instanceMethod yX2_init, Cond.code yX2_init cX2_init 1 none, Cond.methodLink RX2 3 objectInit, Cond.fieldLink RX2 9 "ConkerHeirs$Row" "conkers" "[I", Cond.fieldLink RX2 15 "ConkerHeirs$Row" "length" "I"]
def wsX5_init : List Cond := .code yX5_init cX5_init 1 none :: ((wsX5_init_r1 ++ (wsX5_init_r2 ++ wsX5_init_r3)) ++ wsX40 ++ wsX50 ++ wsX10 ++ wsX30 ++ wsX00 ++ wsX20)
def wsX5_isPlayer : List Cond := .code yX5_isPlayer cX5_isPlayer 1 (some .boolean) :: ([.methodLink RX5 58 yX5_isWithin, .static yX5_isWithin, .initialized RX5, .code yX5_isWithin cX5_isWithin 3 (some .boolean)])
def wsX5_thread_r1 : List Cond := [Cond.fieldLink RX5 10 "ConkerHeirs" "now" "LConkerHeirs$State;", Cond.fieldLink RX5 62 "ConkerHeirs$State" "strings" "[I", Cond.fieldLink RX5 66 "ConkerHeirs$State" "conkers" "I", Cond.fieldLink RX5 25 "ConkerHeirs" "history" "LConkerHeirs$History;", Cond.methodLink RX5 54 yX5_isPlayer, Cond.static yX5_isPlayer, Cond.initialized RX5, Cond.code yX5_isPlayer cX5_isPlayer 1 (some .boolean), Cond.methodLink RX5 58 yX5_isWithin, Cond.static yX5_isWithin, Cond.code yX5_isWithin cX5_isWithin 3 (some .boolean), Cond.methodLink RX5 70 yX1_keep, Cond.instanceMethod yX1_keep, Cond.selects RX1 yX1_keep yX1_keep, Cond.initialized RX1, Cond.code yX1_keep cX1_keep 2 none, Cond.fieldLink RX1 17 "ConkerHeirs$History" "held" "I", Cond.fieldLink RX1 11 "ConkerHeirs$History" "states" "[LConkerHeirs$State;", Cond.methodLink RX1 22 yX1_dropOldest, Cond.instanceMethod yX1_dropOldest, Cond.selects RX1 yX1_dropOldest yX1_dropOldest, Cond.code yX1_dropOldest cX1_dropOldest 3 none, Cond.methodLink RX1 25 yX4_copyFrom, Cond.instanceMethod yX4_copyFrom]
def wsX5_thread_r2 : List Cond := [Cond.selects RX4 yX4_copyFrom yX4_copyFrom, Cond.initialized RX4, Cond.code yX4_copyFrom cX4_copyFrom 2 none, Cond.fieldLink RX4 9 "ConkerHeirs$State" "strings" "[I", Cond.methodLink RX4 52 arraycopyName, Cond.native arraycopyName, Cond.static arraycopyName, Cond.initialized "java/lang/System", Cond.fieldLink RX4 15 "ConkerHeirs$State" "shame" "[I", Cond.fieldLink RX4 18 "ConkerHeirs$State" "owner" "[I", Cond.fieldLink RX4 21 "ConkerHeirs$State" "hardness" "[I", Cond.fieldLink RX4 24 "ConkerHeirs$State" "crack" "[I", Cond.fieldLink RX4 27 "ConkerHeirs$State" "wear" "[I", Cond.fieldLink RX4 30 "ConkerHeirs$State" "victories" "[I", Cond.fieldLink RX4 33 "ConkerHeirs$State" "boasts" "[I", Cond.fieldLink RX4 36 "ConkerHeirs$State" "how" "[I", Cond.fieldLink RX4 39 "ConkerHeirs$State" "smashedBy" "[I", Cond.fieldLink RX4 42 "ConkerHeirs$State" "conkers" "I", Cond.fieldLink RX4 46 "ConkerHeirs$State" "lostVictories" "I", Cond.fieldLink RX4 49 "ConkerHeirs$State" "strikes" "I", Cond.methodLink RX5 74 yX4_addConker, Cond.instanceMethod yX4_addConker, Cond.selects RX4 yX4_addConker yX4_addConker, Cond.code yX4_addConker cX4_addConker 4 (some .int)]
def wsX5_thread : List Cond := .code yX5_thread cX5_thread 3 (some .int) :: ((wsX5_thread_r1 ++ wsX5_thread_r2) ++ wsX50 ++ wsX40 ++ wsX10)
def wsX5_give_r1 : List Cond := [Cond.fieldLink RX5 10 "ConkerHeirs" "now" "LConkerHeirs$State;", Cond.fieldLink RX5 62 "ConkerHeirs$State" "strings" "[I", Cond.fieldLink RX5 25 "ConkerHeirs" "history" "LConkerHeirs$History;", Cond.methodLink RX5 54 yX5_isPlayer, Cond.static yX5_isPlayer, Cond.initialized RX5, Cond.code yX5_isPlayer cX5_isPlayer 1 (some .boolean), Cond.methodLink RX5 58 yX5_isWithin, Cond.static yX5_isWithin, Cond.code yX5_isWithin cX5_isWithin 3 (some .boolean), Cond.methodLink RX5 70 yX1_keep, Cond.instanceMethod yX1_keep, Cond.selects RX1 yX1_keep yX1_keep, Cond.initialized RX1, Cond.code yX1_keep cX1_keep 2 none, Cond.fieldLink RX1 17 "ConkerHeirs$History" "held" "I", Cond.fieldLink RX1 11 "ConkerHeirs$History" "states" "[LConkerHeirs$State;", Cond.methodLink RX1 22 yX1_dropOldest, Cond.instanceMethod yX1_dropOldest, Cond.selects RX1 yX1_dropOldest yX1_dropOldest, Cond.code yX1_dropOldest cX1_dropOldest 3 none, Cond.methodLink RX1 25 yX4_copyFrom, Cond.instanceMethod yX4_copyFrom, Cond.selects RX4 yX4_copyFrom yX4_copyFrom]
def wsX5_give_r2 : List Cond := [Cond.initialized RX4, Cond.code yX4_copyFrom cX4_copyFrom 2 none, Cond.fieldLink RX4 9 "ConkerHeirs$State" "strings" "[I", Cond.methodLink RX4 52 arraycopyName, Cond.native arraycopyName, Cond.static arraycopyName, Cond.initialized "java/lang/System", Cond.fieldLink RX4 15 "ConkerHeirs$State" "shame" "[I", Cond.fieldLink RX4 18 "ConkerHeirs$State" "owner" "[I", Cond.fieldLink RX4 21 "ConkerHeirs$State" "hardness" "[I", Cond.fieldLink RX4 24 "ConkerHeirs$State" "crack" "[I", Cond.fieldLink RX4 27 "ConkerHeirs$State" "wear" "[I", Cond.fieldLink RX4 30 "ConkerHeirs$State" "victories" "[I", Cond.fieldLink RX4 33 "ConkerHeirs$State" "boasts" "[I", Cond.fieldLink RX4 36 "ConkerHeirs$State" "how" "[I", Cond.fieldLink RX4 39 "ConkerHeirs$State" "smashedBy" "[I", Cond.fieldLink RX4 42 "ConkerHeirs$State" "conkers" "I", Cond.fieldLink RX4 46 "ConkerHeirs$State" "lostVictories" "I", Cond.fieldLink RX4 49 "ConkerHeirs$State" "strikes" "I"]
def wsX5_give : List Cond := .code yX5_give cX5_give 3 (some .int) :: ((wsX5_give_r1 ++ wsX5_give_r2) ++ wsX50 ++ wsX40 ++ wsX10)
def wsX5_strike_r1 : List Cond := [Cond.fieldLink RX5 10 "ConkerHeirs" "now" "LConkerHeirs$State;", Cond.fieldLink RX5 25 "ConkerHeirs" "history" "LConkerHeirs$History;", Cond.methodLink RX5 78 yX4_strikeError, Cond.instanceMethod yX4_strikeError, Cond.selects RX4 yX4_strikeError yX4_strikeError, Cond.initialized RX4, Cond.code yX4_strikeError cX4_strikeError 4 (some .int), Cond.static yX5_isWithin, Cond.initialized RX5, Cond.code yX5_isWithin cX5_isWithin 3 (some .boolean), Cond.methodLink RX4 62 yX4_pairError, Cond.instanceMethod yX4_pairError, Cond.selects RX4 yX4_pairError yX4_pairError, Cond.code yX4_pairError cX4_pairError 4 (some .int), Cond.fieldLink RX4 18 "ConkerHeirs$State" "owner" "[I", Cond.methodLink RX4 67 yX4_hasConker, Cond.instanceMethod yX4_hasConker, Cond.selects RX4 yX4_hasConker yX4_hasConker, Cond.code yX4_hasConker cX4_hasConker 2 (some .boolean), Cond.fieldLink RX4 42 "ConkerHeirs$State" "conkers" "I", Cond.methodLink RX4 71 yX4_areInPlay, Cond.instanceMethod yX4_areInPlay, Cond.selects RX4 yX4_areInPlay yX4_areInPlay, Cond.code yX4_areInPlay cX4_areInPlay 3 (some .boolean)]
def wsX5_strike_r2 : List Cond := [Cond.fieldLink RX4 36 "ConkerHeirs$State" "how" "[I", Cond.methodLink RX5 70 yX1_keep, Cond.instanceMethod yX1_keep, Cond.selects RX1 yX1_keep yX1_keep, Cond.initialized RX1, Cond.code yX1_keep cX1_keep 2 none, Cond.fieldLink RX1 17 "ConkerHeirs$History" "held" "I", Cond.fieldLink RX1 11 "ConkerHeirs$History" "states" "[LConkerHeirs$State;", Cond.methodLink RX1 22 yX1_dropOldest, Cond.instanceMethod yX1_dropOldest, Cond.selects RX1 yX1_dropOldest yX1_dropOldest, Cond.code yX1_dropOldest cX1_dropOldest 3 none, Cond.methodLink RX1 25 yX4_copyFrom, Cond.instanceMethod yX4_copyFrom, Cond.selects RX4 yX4_copyFrom yX4_copyFrom, Cond.code yX4_copyFrom cX4_copyFrom 2 none, Cond.fieldLink RX4 9 "ConkerHeirs$State" "strings" "[I", Cond.methodLink RX4 52 arraycopyName, Cond.native arraycopyName, Cond.static arraycopyName, Cond.initialized "java/lang/System", Cond.fieldLink RX4 15 "ConkerHeirs$State" "shame" "[I", Cond.fieldLink RX4 21 "ConkerHeirs$State" "hardness" "[I", Cond.fieldLink RX4 24 "ConkerHeirs$State" "crack" "[I"]
def wsX5_strike_r3 : List Cond := [Cond.fieldLink RX4 27 "ConkerHeirs$State" "wear" "[I", Cond.fieldLink RX4 30 "ConkerHeirs$State" "victories" "[I", Cond.fieldLink RX4 33 "ConkerHeirs$State" "boasts" "[I", Cond.fieldLink RX4 39 "ConkerHeirs$State" "smashedBy" "[I", Cond.fieldLink RX4 46 "ConkerHeirs$State" "lostVictories" "I", Cond.fieldLink RX4 49 "ConkerHeirs$State" "strikes" "I", Cond.methodLink RX5 82 yX4_hit, Cond.instanceMethod yX4_hit, Cond.selects RX4 yX4_hit yX4_hit, Cond.code yX4_hit cX4_hit 6 (some .int), Cond.methodLink RX4 86 Lib.Math.min.name, Cond.static Lib.Math.min.name, Cond.initialized "java/lang/Math", Cond.code Lib.Math.min.name Lib.Math.min.code 2 (some .int), Cond.methodLink RX4 82 yX4_quotient, Cond.static yX4_quotient, Cond.code yX4_quotient cX4_quotient 2 (some .int), Cond.methodLink RX4 91 yX4_settleSmashes, Cond.instanceMethod yX4_settleSmashes, Cond.selects RX4 yX4_settleSmashes yX4_settleSmashes, Cond.code yX4_settleSmashes cX4_settleSmashes 5 none, Cond.methodLink RX4 115 yX4_crush, Cond.instanceMethod yX4_crush, Cond.selects RX4 yX4_crush yX4_crush]
def wsX5_strike_r4 : List Cond := [Cond.code yX4_crush cX4_crush 3 (some .int), Cond.methodLink RX4 79 yX4_takeVictoriesOfSmashed, Cond.instanceMethod yX4_takeVictoriesOfSmashed, Cond.selects RX4 yX4_takeVictoriesOfSmashed yX4_takeVictoriesOfSmashed, Cond.code yX4_takeVictoriesOfSmashed cX4_takeVictoriesOfSmashed 3 (some .int), Cond.methodLink RX4 118 yX4_inherit, Cond.instanceMethod yX4_inherit, Cond.selects RX4 yX4_inherit yX4_inherit, Cond.code yX4_inherit cX4_inherit 3 none, Cond.methodLink RX4 95 yX4_fallIfWorn, Cond.instanceMethod yX4_fallIfWorn, Cond.selects RX4 yX4_fallIfWorn yX4_fallIfWorn, Cond.code yX4_fallIfWorn cX4_fallIfWorn 2 none, Cond.methodLink RX4 99 yX4_outcome, Cond.instanceMethod yX4_outcome, Cond.selects RX4 yX4_outcome yX4_outcome, Cond.code yX4_outcome cX4_outcome 4 (some .int)]
def wsX5_strike : List Cond := .code yX5_strike cX5_strike 5 (some .int) :: ((wsX5_strike_r1 ++ (wsX5_strike_r2 ++ (wsX5_strike_r3 ++ wsX5_strike_r4))) ++ wsX50 ++ wsX40 ++ wsX10)
def wsX5_mend_r1 : List Cond := [Cond.fieldLink RX5 10 "ConkerHeirs" "now" "LConkerHeirs$State;", Cond.fieldLink RX5 25 "ConkerHeirs" "history" "LConkerHeirs$History;", Cond.methodLink RX5 85 yX4_mendError, Cond.instanceMethod yX4_mendError, Cond.selects RX4 yX4_mendError yX4_mendError, Cond.initialized RX4, Cond.code yX4_mendError cX4_mendError 3 (some .int), Cond.fieldLink RX4 9 "ConkerHeirs$State" "strings" "[I", Cond.fieldLink RX4 18 "ConkerHeirs$State" "owner" "[I", Cond.methodLink RX4 75 yX4_fallenError, Cond.instanceMethod yX4_fallenError, Cond.selects RX4 yX4_fallenError yX4_fallenError, Cond.code yX4_fallenError cX4_fallenError 2 (some .int), Cond.fieldLink RX4 36 "ConkerHeirs$State" "how" "[I", Cond.methodLink RX4 67 yX4_hasConker, Cond.instanceMethod yX4_hasConker, Cond.selects RX4 yX4_hasConker yX4_hasConker, Cond.code yX4_hasConker cX4_hasConker 2 (some .boolean), Cond.fieldLink RX4 42 "ConkerHeirs$State" "conkers" "I", Cond.static yX5_isWithin, Cond.initialized RX5, Cond.code yX5_isWithin cX5_isWithin 3 (some .boolean), Cond.methodLink RX5 70 yX1_keep, Cond.instanceMethod yX1_keep]
def wsX5_mend_r2 : List Cond := [Cond.selects RX1 yX1_keep yX1_keep, Cond.initialized RX1, Cond.code yX1_keep cX1_keep 2 none, Cond.fieldLink RX1 17 "ConkerHeirs$History" "held" "I", Cond.fieldLink RX1 11 "ConkerHeirs$History" "states" "[LConkerHeirs$State;", Cond.methodLink RX1 22 yX1_dropOldest, Cond.instanceMethod yX1_dropOldest, Cond.selects RX1 yX1_dropOldest yX1_dropOldest, Cond.code yX1_dropOldest cX1_dropOldest 3 none, Cond.methodLink RX1 25 yX4_copyFrom, Cond.instanceMethod yX4_copyFrom, Cond.selects RX4 yX4_copyFrom yX4_copyFrom, Cond.code yX4_copyFrom cX4_copyFrom 2 none, Cond.methodLink RX4 52 arraycopyName, Cond.native arraycopyName, Cond.static arraycopyName, Cond.initialized "java/lang/System", Cond.fieldLink RX4 15 "ConkerHeirs$State" "shame" "[I", Cond.fieldLink RX4 21 "ConkerHeirs$State" "hardness" "[I", Cond.fieldLink RX4 24 "ConkerHeirs$State" "crack" "[I", Cond.fieldLink RX4 27 "ConkerHeirs$State" "wear" "[I", Cond.fieldLink RX4 30 "ConkerHeirs$State" "victories" "[I", Cond.fieldLink RX4 33 "ConkerHeirs$State" "boasts" "[I", Cond.fieldLink RX4 39 "ConkerHeirs$State" "smashedBy" "[I"]
def wsX5_mend_r3 : List Cond := [Cond.fieldLink RX4 46 "ConkerHeirs$State" "lostVictories" "I", Cond.fieldLink RX4 49 "ConkerHeirs$State" "strikes" "I", Cond.methodLink RX5 89 yX4_threadAgain, Cond.instanceMethod yX4_threadAgain, Cond.selects RX4 yX4_threadAgain yX4_threadAgain, Cond.code yX4_threadAgain cX4_threadAgain 3 (some .int)]
def wsX5_mend : List Cond := .code yX5_mend cX5_mend 3 (some .int) :: ((wsX5_mend_r1 ++ (wsX5_mend_r2 ++ wsX5_mend_r3)) ++ wsX50 ++ wsX40 ++ wsX10)
def wsX5_stamp_r1 : List Cond := [Cond.fieldLink RX5 10 "ConkerHeirs" "now" "LConkerHeirs$State;", Cond.fieldLink RX5 25 "ConkerHeirs" "history" "LConkerHeirs$History;", Cond.methodLink RX5 92 yX4_fallenError, Cond.instanceMethod yX4_fallenError, Cond.selects RX4 yX4_fallenError yX4_fallenError, Cond.initialized RX4, Cond.code yX4_fallenError cX4_fallenError 2 (some .int), Cond.fieldLink RX4 36 "ConkerHeirs$State" "how" "[I", Cond.methodLink RX4 67 yX4_hasConker, Cond.instanceMethod yX4_hasConker, Cond.selects RX4 yX4_hasConker yX4_hasConker, Cond.code yX4_hasConker cX4_hasConker 2 (some .boolean), Cond.fieldLink RX4 42 "ConkerHeirs$State" "conkers" "I", Cond.static yX5_isWithin, Cond.initialized RX5, Cond.code yX5_isWithin cX5_isWithin 3 (some .boolean), Cond.methodLink RX5 70 yX1_keep, Cond.instanceMethod yX1_keep, Cond.selects RX1 yX1_keep yX1_keep, Cond.initialized RX1, Cond.code yX1_keep cX1_keep 2 none, Cond.fieldLink RX1 17 "ConkerHeirs$History" "held" "I", Cond.fieldLink RX1 11 "ConkerHeirs$History" "states" "[LConkerHeirs$State;", Cond.methodLink RX1 22 yX1_dropOldest]
def wsX5_stamp_r2 : List Cond := [Cond.instanceMethod yX1_dropOldest, Cond.selects RX1 yX1_dropOldest yX1_dropOldest, Cond.code yX1_dropOldest cX1_dropOldest 3 none, Cond.methodLink RX1 25 yX4_copyFrom, Cond.instanceMethod yX4_copyFrom, Cond.selects RX4 yX4_copyFrom yX4_copyFrom, Cond.code yX4_copyFrom cX4_copyFrom 2 none, Cond.fieldLink RX4 9 "ConkerHeirs$State" "strings" "[I", Cond.methodLink RX4 52 arraycopyName, Cond.native arraycopyName, Cond.static arraycopyName, Cond.initialized "java/lang/System", Cond.fieldLink RX4 15 "ConkerHeirs$State" "shame" "[I", Cond.fieldLink RX4 18 "ConkerHeirs$State" "owner" "[I", Cond.fieldLink RX4 21 "ConkerHeirs$State" "hardness" "[I", Cond.fieldLink RX4 24 "ConkerHeirs$State" "crack" "[I", Cond.fieldLink RX4 27 "ConkerHeirs$State" "wear" "[I", Cond.fieldLink RX4 30 "ConkerHeirs$State" "victories" "[I", Cond.fieldLink RX4 33 "ConkerHeirs$State" "boasts" "[I", Cond.fieldLink RX4 39 "ConkerHeirs$State" "smashedBy" "[I", Cond.fieldLink RX4 46 "ConkerHeirs$State" "lostVictories" "I", Cond.fieldLink RX4 49 "ConkerHeirs$State" "strikes" "I", Cond.methodLink RX5 95 yX4_crush, Cond.instanceMethod yX4_crush]
def wsX5_stamp_r3 : List Cond := [Cond.selects RX4 yX4_crush yX4_crush, Cond.code yX4_crush cX4_crush 3 (some .int), Cond.methodLink RX4 79 yX4_takeVictoriesOfSmashed, Cond.instanceMethod yX4_takeVictoriesOfSmashed, Cond.selects RX4 yX4_takeVictoriesOfSmashed yX4_takeVictoriesOfSmashed, Cond.code yX4_takeVictoriesOfSmashed cX4_takeVictoriesOfSmashed 3 (some .int)]
def wsX5_stamp : List Cond := .code yX5_stamp cX5_stamp 3 (some .int) :: ((wsX5_stamp_r1 ++ (wsX5_stamp_r2 ++ wsX5_stamp_r3)) ++ wsX50 ++ wsX40 ++ wsX10)
def wsX5_boast_r1 : List Cond := [Cond.fieldLink RX5 10 "ConkerHeirs" "now" "LConkerHeirs$State;", Cond.fieldLink RX5 101 "ConkerHeirs$State" "how" "[I", Cond.fieldLink RX5 25 "ConkerHeirs" "history" "LConkerHeirs$History;", Cond.fieldLink RX5 104 "ConkerHeirs$State" "boasts" "[I", Cond.methodLink RX5 98 yX4_hasConker, Cond.instanceMethod yX4_hasConker, Cond.selects RX4 yX4_hasConker yX4_hasConker, Cond.initialized RX4, Cond.code yX4_hasConker cX4_hasConker 2 (some .boolean), Cond.fieldLink RX4 42 "ConkerHeirs$State" "conkers" "I", Cond.static yX5_isWithin, Cond.initialized RX5, Cond.code yX5_isWithin cX5_isWithin 3 (some .boolean), Cond.methodLink RX5 58 yX5_isWithin, Cond.methodLink RX5 70 yX1_keep, Cond.instanceMethod yX1_keep, Cond.selects RX1 yX1_keep yX1_keep, Cond.initialized RX1, Cond.code yX1_keep cX1_keep 2 none, Cond.fieldLink RX1 17 "ConkerHeirs$History" "held" "I", Cond.fieldLink RX1 11 "ConkerHeirs$History" "states" "[LConkerHeirs$State;", Cond.methodLink RX1 22 yX1_dropOldest, Cond.instanceMethod yX1_dropOldest, Cond.selects RX1 yX1_dropOldest yX1_dropOldest]
def wsX5_boast_r2 : List Cond := [Cond.code yX1_dropOldest cX1_dropOldest 3 none, Cond.methodLink RX1 25 yX4_copyFrom, Cond.instanceMethod yX4_copyFrom, Cond.selects RX4 yX4_copyFrom yX4_copyFrom, Cond.code yX4_copyFrom cX4_copyFrom 2 none, Cond.fieldLink RX4 9 "ConkerHeirs$State" "strings" "[I", Cond.methodLink RX4 52 arraycopyName, Cond.native arraycopyName, Cond.static arraycopyName, Cond.initialized "java/lang/System", Cond.fieldLink RX4 15 "ConkerHeirs$State" "shame" "[I", Cond.fieldLink RX4 18 "ConkerHeirs$State" "owner" "[I", Cond.fieldLink RX4 21 "ConkerHeirs$State" "hardness" "[I", Cond.fieldLink RX4 24 "ConkerHeirs$State" "crack" "[I", Cond.fieldLink RX4 27 "ConkerHeirs$State" "wear" "[I", Cond.fieldLink RX4 30 "ConkerHeirs$State" "victories" "[I", Cond.fieldLink RX4 33 "ConkerHeirs$State" "boasts" "[I", Cond.fieldLink RX4 36 "ConkerHeirs$State" "how" "[I", Cond.fieldLink RX4 39 "ConkerHeirs$State" "smashedBy" "[I", Cond.fieldLink RX4 46 "ConkerHeirs$State" "lostVictories" "I", Cond.fieldLink RX4 49 "ConkerHeirs$State" "strikes" "I"]
def wsX5_boast : List Cond := .code yX5_boast cX5_boast 4 (some .int) :: ((wsX5_boast_r1 ++ wsX5_boast_r2) ++ wsX50 ++ wsX40 ++ wsX10)
def wsX5_doubt_r1 : List Cond := [Cond.fieldLink RX5 10 "ConkerHeirs" "now" "LConkerHeirs$State;", Cond.fieldLink RX5 107 "ConkerHeirs$State" "owner" "[I", Cond.fieldLink RX5 104 "ConkerHeirs$State" "boasts" "[I", Cond.fieldLink RX5 25 "ConkerHeirs" "history" "LConkerHeirs$History;", Cond.methodLink RX5 54 yX5_isPlayer, Cond.static yX5_isPlayer, Cond.initialized RX5, Cond.code yX5_isPlayer cX5_isPlayer 1 (some .boolean), Cond.methodLink RX5 58 yX5_isWithin, Cond.static yX5_isWithin, Cond.code yX5_isWithin cX5_isWithin 3 (some .boolean), Cond.methodLink RX5 98 yX4_hasConker, Cond.instanceMethod yX4_hasConker, Cond.selects RX4 yX4_hasConker yX4_hasConker, Cond.initialized RX4, Cond.code yX4_hasConker cX4_hasConker 2 (some .boolean), Cond.fieldLink RX4 42 "ConkerHeirs$State" "conkers" "I", Cond.methodLink RX5 70 yX1_keep, Cond.instanceMethod yX1_keep, Cond.selects RX1 yX1_keep yX1_keep, Cond.initialized RX1, Cond.code yX1_keep cX1_keep 2 none, Cond.fieldLink RX1 17 "ConkerHeirs$History" "held" "I", Cond.fieldLink RX1 11 "ConkerHeirs$History" "states" "[LConkerHeirs$State;"]
def wsX5_doubt_r2 : List Cond := [Cond.methodLink RX1 22 yX1_dropOldest, Cond.instanceMethod yX1_dropOldest, Cond.selects RX1 yX1_dropOldest yX1_dropOldest, Cond.code yX1_dropOldest cX1_dropOldest 3 none, Cond.methodLink RX1 25 yX4_copyFrom, Cond.instanceMethod yX4_copyFrom, Cond.selects RX4 yX4_copyFrom yX4_copyFrom, Cond.code yX4_copyFrom cX4_copyFrom 2 none, Cond.fieldLink RX4 9 "ConkerHeirs$State" "strings" "[I", Cond.methodLink RX4 52 arraycopyName, Cond.native arraycopyName, Cond.static arraycopyName, Cond.initialized "java/lang/System", Cond.fieldLink RX4 15 "ConkerHeirs$State" "shame" "[I", Cond.fieldLink RX4 18 "ConkerHeirs$State" "owner" "[I", Cond.fieldLink RX4 21 "ConkerHeirs$State" "hardness" "[I", Cond.fieldLink RX4 24 "ConkerHeirs$State" "crack" "[I", Cond.fieldLink RX4 27 "ConkerHeirs$State" "wear" "[I", Cond.fieldLink RX4 30 "ConkerHeirs$State" "victories" "[I", Cond.fieldLink RX4 33 "ConkerHeirs$State" "boasts" "[I", Cond.fieldLink RX4 36 "ConkerHeirs$State" "how" "[I", Cond.fieldLink RX4 39 "ConkerHeirs$State" "smashedBy" "[I", Cond.fieldLink RX4 46 "ConkerHeirs$State" "lostVictories" "I", Cond.fieldLink RX4 49 "ConkerHeirs$State" "strikes" "I"]
def wsX5_doubt_r3 : List Cond := [Cond.methodLink RX5 110 yX4_settleBoast, Cond.instanceMethod yX4_settleBoast, Cond.selects RX4 yX4_settleBoast yX4_settleBoast, Cond.code yX4_settleBoast cX4_settleBoast 4 (some .int)]
def wsX5_doubt : List Cond := .code yX5_doubt cX5_doubt 3 (some .int) :: ((wsX5_doubt_r1 ++ (wsX5_doubt_r2 ++ wsX5_doubt_r3)) ++ wsX50 ++ wsX40 ++ wsX10)
def wsX5_bout_r1 : List Cond := [Cond.fieldLink RX5 10 "ConkerHeirs" "now" "LConkerHeirs$State;", Cond.fieldLink RX5 25 "ConkerHeirs" "history" "LConkerHeirs$History;", Cond.fieldLink RX5 39 "ConkerHeirs" "draws" "LConkerHeirs$Draws;", Cond.methodLink RX5 113 yX4_boutError, Cond.instanceMethod yX4_boutError, Cond.selects RX4 yX4_boutError yX4_boutError, Cond.initialized RX4, Cond.code yX4_boutError cX4_boutError 4 (some .int), Cond.constant RX4 66 (65535), Cond.static yX5_isWithin, Cond.initialized RX5, Cond.code yX5_isWithin cX5_isWithin 3 (some .boolean), Cond.methodLink RX4 62 yX4_pairError, Cond.instanceMethod yX4_pairError, Cond.selects RX4 yX4_pairError yX4_pairError, Cond.code yX4_pairError cX4_pairError 4 (some .int), Cond.fieldLink RX4 18 "ConkerHeirs$State" "owner" "[I", Cond.methodLink RX4 67 yX4_hasConker, Cond.instanceMethod yX4_hasConker, Cond.selects RX4 yX4_hasConker yX4_hasConker, Cond.code yX4_hasConker cX4_hasConker 2 (some .boolean), Cond.fieldLink RX4 42 "ConkerHeirs$State" "conkers" "I", Cond.methodLink RX4 71 yX4_areInPlay, Cond.instanceMethod yX4_areInPlay]
def wsX5_bout_r2 : List Cond := [Cond.selects RX4 yX4_areInPlay yX4_areInPlay, Cond.code yX4_areInPlay cX4_areInPlay 3 (some .boolean), Cond.fieldLink RX4 36 "ConkerHeirs$State" "how" "[I", Cond.methodLink RX5 70 yX1_keep, Cond.instanceMethod yX1_keep, Cond.selects RX1 yX1_keep yX1_keep, Cond.initialized RX1, Cond.code yX1_keep cX1_keep 2 none, Cond.fieldLink RX1 17 "ConkerHeirs$History" "held" "I", Cond.fieldLink RX1 11 "ConkerHeirs$History" "states" "[LConkerHeirs$State;", Cond.methodLink RX1 22 yX1_dropOldest, Cond.instanceMethod yX1_dropOldest, Cond.selects RX1 yX1_dropOldest yX1_dropOldest, Cond.code yX1_dropOldest cX1_dropOldest 3 none, Cond.methodLink RX1 25 yX4_copyFrom, Cond.instanceMethod yX4_copyFrom, Cond.selects RX4 yX4_copyFrom yX4_copyFrom, Cond.code yX4_copyFrom cX4_copyFrom 2 none, Cond.fieldLink RX4 9 "ConkerHeirs$State" "strings" "[I", Cond.methodLink RX4 52 arraycopyName, Cond.native arraycopyName, Cond.static arraycopyName, Cond.initialized "java/lang/System", Cond.fieldLink RX4 15 "ConkerHeirs$State" "shame" "[I"]
def wsX5_bout_r3 : List Cond := [Cond.fieldLink RX4 21 "ConkerHeirs$State" "hardness" "[I", Cond.fieldLink RX4 24 "ConkerHeirs$State" "crack" "[I", Cond.fieldLink RX4 27 "ConkerHeirs$State" "wear" "[I", Cond.fieldLink RX4 30 "ConkerHeirs$State" "victories" "[I", Cond.fieldLink RX4 33 "ConkerHeirs$State" "boasts" "[I", Cond.fieldLink RX4 39 "ConkerHeirs$State" "smashedBy" "[I", Cond.fieldLink RX4 46 "ConkerHeirs$State" "lostVictories" "I", Cond.fieldLink RX4 49 "ConkerHeirs$State" "strikes" "I", Cond.methodLink RX5 116 yX0_begin, Cond.instanceMethod yX0_begin, Cond.selects RX0 yX0_begin yX0_begin, Cond.initialized RX0, Cond.code yX0_begin cX0_begin 2 none, Cond.fieldLink RX0 7 "ConkerHeirs$Draws" "x" "I", Cond.methodLink RX5 120 yX4_fight, Cond.instanceMethod yX4_fight, Cond.selects RX4 yX4_fight yX4_fight, Cond.code yX4_fight cX4_fight 8 (some .int), Cond.methodLink RX4 86 Lib.Math.min.name, Cond.static Lib.Math.min.name, Cond.initialized "java/lang/Math", Cond.code Lib.Math.min.name Lib.Math.min.code 2 (some .int), Cond.methodLink RX4 103 Lib.Math.max.name, Cond.static Lib.Math.max.name]
def wsX5_bout_r4 : List Cond := [Cond.code Lib.Math.max.name Lib.Math.max.code 2 (some .int), Cond.methodLink RX4 106 yX0_swing, Cond.instanceMethod yX0_swing, Cond.selects RX0 yX0_swing yX0_swing, Cond.code yX0_swing cX0_swing 1 (some .int), Cond.methodLink RX0 14 yX0_next, Cond.instanceMethod yX0_next, Cond.selects RX0 yX0_next yX0_next, Cond.code yX0_next cX0_next 1 (some .int), Cond.constant RX0 13 (65536), Cond.methodLink RX4 112 yX4_hit, Cond.instanceMethod yX4_hit, Cond.selects RX4 yX4_hit yX4_hit, Cond.code yX4_hit cX4_hit 6 (some .int), Cond.methodLink RX4 82 yX4_quotient, Cond.static yX4_quotient, Cond.code yX4_quotient cX4_quotient 2 (some .int), Cond.methodLink RX4 91 yX4_settleSmashes, Cond.instanceMethod yX4_settleSmashes, Cond.selects RX4 yX4_settleSmashes yX4_settleSmashes, Cond.code yX4_settleSmashes cX4_settleSmashes 5 none, Cond.methodLink RX4 115 yX4_crush, Cond.instanceMethod yX4_crush, Cond.selects RX4 yX4_crush yX4_crush]
def wsX5_bout_r5 : List Cond := [Cond.code yX4_crush cX4_crush 3 (some .int), Cond.methodLink RX4 79 yX4_takeVictoriesOfSmashed, Cond.instanceMethod yX4_takeVictoriesOfSmashed, Cond.selects RX4 yX4_takeVictoriesOfSmashed yX4_takeVictoriesOfSmashed, Cond.code yX4_takeVictoriesOfSmashed cX4_takeVictoriesOfSmashed 3 (some .int), Cond.methodLink RX4 118 yX4_inherit, Cond.instanceMethod yX4_inherit, Cond.selects RX4 yX4_inherit yX4_inherit, Cond.code yX4_inherit cX4_inherit 3 none, Cond.methodLink RX4 95 yX4_fallIfWorn, Cond.instanceMethod yX4_fallIfWorn, Cond.selects RX4 yX4_fallIfWorn yX4_fallIfWorn, Cond.code yX4_fallIfWorn cX4_fallIfWorn 2 none, Cond.methodLink RX4 99 yX4_outcome, Cond.instanceMethod yX4_outcome, Cond.selects RX4 yX4_outcome yX4_outcome, Cond.code yX4_outcome cX4_outcome 4 (some .int)]
def wsX5_bout : List Cond := .code yX5_bout cX5_bout 5 (some .int) :: ((wsX5_bout_r1 ++ (wsX5_bout_r2 ++ (wsX5_bout_r3 ++ (wsX5_bout_r4 ++ wsX5_bout_r5)))) ++ wsX50 ++ wsX40 ++ wsX10 ++ wsX00)
def wsX5_round_r1 : List Cond := [Cond.constant RX5 124 (65535), Cond.fieldLink RX5 25 "ConkerHeirs" "history" "LConkerHeirs$History;", Cond.fieldLink RX5 10 "ConkerHeirs" "now" "LConkerHeirs$State;", Cond.fieldLink RX5 39 "ConkerHeirs" "draws" "LConkerHeirs$Draws;", Cond.fieldLink RX5 46 "ConkerHeirs" "row" "LConkerHeirs$Row;", Cond.fieldLink RX5 128 "ConkerHeirs$Row" "length" "I", Cond.methodLink RX5 58 yX5_isWithin, Cond.static yX5_isWithin, Cond.initialized RX5, Cond.code yX5_isWithin cX5_isWithin 3 (some .boolean), Cond.methodLink RX5 70 yX1_keep, Cond.instanceMethod yX1_keep, Cond.selects RX1 yX1_keep yX1_keep, Cond.initialized RX1, Cond.code yX1_keep cX1_keep 2 none, Cond.fieldLink RX1 17 "ConkerHeirs$History" "held" "I", Cond.fieldLink RX1 11 "ConkerHeirs$History" "states" "[LConkerHeirs$State;", Cond.methodLink RX1 22 yX1_dropOldest, Cond.instanceMethod yX1_dropOldest, Cond.selects RX1 yX1_dropOldest yX1_dropOldest, Cond.code yX1_dropOldest cX1_dropOldest 3 none, Cond.methodLink RX1 25 yX4_copyFrom, Cond.instanceMethod yX4_copyFrom, Cond.selects RX4 yX4_copyFrom yX4_copyFrom]
def wsX5_round_r2 : List Cond := [Cond.initialized RX4, Cond.code yX4_copyFrom cX4_copyFrom 2 none, Cond.fieldLink RX4 9 "ConkerHeirs$State" "strings" "[I", Cond.methodLink RX4 52 arraycopyName, Cond.native arraycopyName, Cond.static arraycopyName, Cond.initialized "java/lang/System", Cond.fieldLink RX4 15 "ConkerHeirs$State" "shame" "[I", Cond.fieldLink RX4 18 "ConkerHeirs$State" "owner" "[I", Cond.fieldLink RX4 21 "ConkerHeirs$State" "hardness" "[I", Cond.fieldLink RX4 24 "ConkerHeirs$State" "crack" "[I", Cond.fieldLink RX4 27 "ConkerHeirs$State" "wear" "[I", Cond.fieldLink RX4 30 "ConkerHeirs$State" "victories" "[I", Cond.fieldLink RX4 33 "ConkerHeirs$State" "boasts" "[I", Cond.fieldLink RX4 36 "ConkerHeirs$State" "how" "[I", Cond.fieldLink RX4 39 "ConkerHeirs$State" "smashedBy" "[I", Cond.fieldLink RX4 42 "ConkerHeirs$State" "conkers" "I", Cond.fieldLink RX4 46 "ConkerHeirs$State" "lostVictories" "I", Cond.fieldLink RX4 49 "ConkerHeirs$State" "strikes" "I", Cond.methodLink RX5 116 yX0_begin, Cond.instanceMethod yX0_begin, Cond.selects RX0 yX0_begin yX0_begin, Cond.initialized RX0, Cond.code yX0_begin cX0_begin 2 none]
def wsX5_round_r3 : List Cond := [Cond.fieldLink RX0 7 "ConkerHeirs$Draws" "x" "I", Cond.methodLink RX5 125 yX2_lineUp, Cond.instanceMethod yX2_lineUp, Cond.selects RX2 yX2_lineUp yX2_lineUp, Cond.initialized RX2, Cond.code yX2_lineUp cX2_lineUp 4 none, Cond.fieldLink RX2 15 "ConkerHeirs$Row" "length" "I", Cond.methodLink RX2 19 yX4_conkerToSend, Cond.instanceMethod yX4_conkerToSend, Cond.selects RX4 yX4_conkerToSend yX4_conkerToSend, Cond.code yX4_conkerToSend cX4_conkerToSend 4 (some .int), Cond.methodLink RX2 25 yX2_insert, Cond.instanceMethod yX2_insert, Cond.selects RX2 yX2_insert yX2_insert, Cond.code yX2_insert cX2_insert 5 none, Cond.fieldLink RX2 29 "ConkerHeirs$State" "shame" "[I", Cond.fieldLink RX2 32 "ConkerHeirs$State" "owner" "[I", Cond.fieldLink RX2 9 "ConkerHeirs$Row" "conkers" "[I", Cond.methodLink RX5 131 yX0_next, Cond.instanceMethod yX0_next, Cond.selects RX0 yX0_next yX0_next, Cond.code yX0_next cX0_next 1 (some .int), Cond.constant RX0 13 (65536), Cond.methodLink RX5 135 yX2_takeOut]
def wsX5_round_r4 : List Cond := [Cond.instanceMethod yX2_takeOut, Cond.selects RX2 yX2_takeOut yX2_takeOut, Cond.code yX2_takeOut cX2_takeOut 4 (some .int), Cond.methodLink RX5 120 yX4_fight, Cond.instanceMethod yX4_fight, Cond.selects RX4 yX4_fight yX4_fight, Cond.code yX4_fight cX4_fight 8 (some .int), Cond.methodLink RX4 86 Lib.Math.min.name, Cond.static Lib.Math.min.name, Cond.initialized "java/lang/Math", Cond.code Lib.Math.min.name Lib.Math.min.code 2 (some .int), Cond.methodLink RX4 103 Lib.Math.max.name, Cond.static Lib.Math.max.name, Cond.code Lib.Math.max.name Lib.Math.max.code 2 (some .int), Cond.methodLink RX4 71 yX4_areInPlay, Cond.instanceMethod yX4_areInPlay, Cond.selects RX4 yX4_areInPlay yX4_areInPlay, Cond.code yX4_areInPlay cX4_areInPlay 3 (some .boolean), Cond.methodLink RX4 106 yX0_swing, Cond.instanceMethod yX0_swing, Cond.selects RX0 yX0_swing yX0_swing, Cond.code yX0_swing cX0_swing 1 (some .int), Cond.methodLink RX0 14 yX0_next, Cond.methodLink RX4 112 yX4_hit]
def wsX5_round_r5 : List Cond := [Cond.instanceMethod yX4_hit, Cond.selects RX4 yX4_hit yX4_hit, Cond.code yX4_hit cX4_hit 6 (some .int), Cond.methodLink RX4 82 yX4_quotient, Cond.static yX4_quotient, Cond.code yX4_quotient cX4_quotient 2 (some .int), Cond.methodLink RX4 91 yX4_settleSmashes, Cond.instanceMethod yX4_settleSmashes, Cond.selects RX4 yX4_settleSmashes yX4_settleSmashes, Cond.code yX4_settleSmashes cX4_settleSmashes 5 none, Cond.methodLink RX4 115 yX4_crush, Cond.instanceMethod yX4_crush, Cond.selects RX4 yX4_crush yX4_crush, Cond.code yX4_crush cX4_crush 3 (some .int), Cond.methodLink RX4 79 yX4_takeVictoriesOfSmashed, Cond.instanceMethod yX4_takeVictoriesOfSmashed, Cond.selects RX4 yX4_takeVictoriesOfSmashed yX4_takeVictoriesOfSmashed, Cond.code yX4_takeVictoriesOfSmashed cX4_takeVictoriesOfSmashed 3 (some .int), Cond.methodLink RX4 118 yX4_inherit, Cond.instanceMethod yX4_inherit, Cond.selects RX4 yX4_inherit yX4_inherit, Cond.code yX4_inherit cX4_inherit 3 none, Cond.methodLink RX4 95 yX4_fallIfWorn, Cond.instanceMethod yX4_fallIfWorn]
def wsX5_round_r6 : List Cond := [Cond.selects RX4 yX4_fallIfWorn yX4_fallIfWorn, Cond.code yX4_fallIfWorn cX4_fallIfWorn 2 none, Cond.methodLink RX4 99 yX4_outcome, Cond.instanceMethod yX4_outcome, Cond.selects RX4 yX4_outcome yX4_outcome, Cond.code yX4_outcome cX4_outcome 4 (some .int)]
def wsX5_round : List Cond := .code yX5_round cX5_round 5 (some .int) :: ((wsX5_round_r1 ++ (wsX5_round_r2 ++ (wsX5_round_r3 ++ (wsX5_round_r4 ++ (wsX5_round_r5 ++ wsX5_round_r6))))) ++ wsX50 ++ wsX20 ++ wsX10 ++ wsX40 ++ wsX00)
def wsX5_append : List Cond := .code yX5_append cX5_append 2 (some .int) :: ([.fieldLink RX5 32 "ConkerHeirs" "script" "LConkerHeirs$Script;", .fieldLink RX5 138 "ConkerHeirs$Script" "length" "I", .fieldLink RX5 139 "ConkerHeirs$Script" "signs" "[C", .methodLink RX5 58 yX5_isWithin, .static yX5_isWithin, .initialized RX5, .code yX5_isWithin cX5_isWithin 3 (some .boolean)] ++ wsX50 ++ wsX30)
def wsX5_clearText : List Cond := .code yX5_clearText cX5_clearText 2 (some .int) :: ([.fieldLink RX5 32 "ConkerHeirs" "script" "LConkerHeirs$Script;", .fieldLink RX5 138 "ConkerHeirs$Script" "length" "I"] ++ wsX50 ++ wsX30)
def wsX5_fault_r1 : List Cond := [Cond.fieldLink RX5 32 "ConkerHeirs" "script" "LConkerHeirs$Script;", Cond.methodLink RX5 143 yX3_findFault, Cond.instanceMethod yX3_findFault, Cond.selects RX3 yX3_findFault yX3_findFault, Cond.initialized RX3, Cond.code yX3_findFault cX3_findFault 2 (some .int), Cond.fieldLink RX3 19 "ConkerHeirs$Script" "at" "I", Cond.fieldLink RX3 15 "ConkerHeirs$Script" "length" "I", Cond.methodLink RX3 35 yX3_rewind, Cond.instanceMethod yX3_rewind, Cond.selects RX3 yX3_rewind yX3_rewind, Cond.code yX3_rewind cX3_rewind 1 none, Cond.methodLink RX3 38 yX3_readOrder, Cond.instanceMethod yX3_readOrder, Cond.selects RX3 yX3_readOrder yX3_readOrder, Cond.code yX3_readOrder cX3_readOrder 1 (some .boolean), Cond.fieldLink RX3 22 "ConkerHeirs$Script" "kind" "C", Cond.fieldLink RX3 26 "ConkerHeirs$Script" "first" "I", Cond.fieldLink RX3 29 "ConkerHeirs$Script" "second" "I", Cond.fieldLink RX3 32 "ConkerHeirs$Script" "swing" "I", Cond.methodLink RX3 46 yX3_sign, Cond.instanceMethod yX3_sign, Cond.selects RX3 yX3_sign yX3_sign, Cond.code yX3_sign cX3_sign 1 (some .char)]
def wsX5_fault_r2 : List Cond := [Cond.fieldLink RX3 9 "ConkerHeirs$Script" "signs" "[C", Cond.methodLink RX3 50 yX3_readConker, Cond.instanceMethod yX3_readConker, Cond.selects RX3 yX3_readConker yX3_readConker, Cond.code yX3_readConker cX3_readConker 3 (some .int), Cond.methodLink RX3 54 yX3_digit, Cond.instanceMethod yX3_digit, Cond.selects RX3 yX3_digit yX3_digit, Cond.code yX3_digit cX3_digit 2 (some .int), Cond.methodLink RX3 42 yX3_take, Cond.instanceMethod yX3_take, Cond.selects RX3 yX3_take yX3_take, Cond.code yX3_take cX3_take 2 (some .boolean)]
def wsX5_fault : List Cond := .code yX5_fault cX5_fault 1 (some .int) :: ((wsX5_fault_r1 ++ wsX5_fault_r2) ++ wsX50 ++ wsX30)
def wsX5_carryOutOrder_r1 : List Cond := [Cond.fieldLink RX5 32 "ConkerHeirs" "script" "LConkerHeirs$Script;", Cond.fieldLink RX5 224 "ConkerHeirs$Script" "kind" "C", Cond.fieldLink RX5 10 "ConkerHeirs" "now" "LConkerHeirs$State;", Cond.fieldLink RX5 228 "ConkerHeirs$Script" "first" "I", Cond.fieldLink RX5 231 "ConkerHeirs$Script" "second" "I", Cond.fieldLink RX5 234 "ConkerHeirs$Script" "swing" "I", Cond.methodLink RX5 85 yX4_mendError, Cond.instanceMethod yX4_mendError, Cond.selects RX4 yX4_mendError yX4_mendError, Cond.initialized RX4, Cond.code yX4_mendError cX4_mendError 3 (some .int), Cond.fieldLink RX4 9 "ConkerHeirs$State" "strings" "[I", Cond.fieldLink RX4 18 "ConkerHeirs$State" "owner" "[I", Cond.methodLink RX4 75 yX4_fallenError, Cond.instanceMethod yX4_fallenError, Cond.selects RX4 yX4_fallenError yX4_fallenError, Cond.code yX4_fallenError cX4_fallenError 2 (some .int), Cond.fieldLink RX4 36 "ConkerHeirs$State" "how" "[I", Cond.methodLink RX4 67 yX4_hasConker, Cond.instanceMethod yX4_hasConker, Cond.selects RX4 yX4_hasConker yX4_hasConker, Cond.code yX4_hasConker cX4_hasConker 2 (some .boolean), Cond.fieldLink RX4 42 "ConkerHeirs$State" "conkers" "I", Cond.static yX5_isWithin]
def wsX5_carryOutOrder_r2 : List Cond := [Cond.initialized RX5, Cond.code yX5_isWithin cX5_isWithin 3 (some .boolean), Cond.methodLink RX5 89 yX4_threadAgain, Cond.instanceMethod yX4_threadAgain, Cond.selects RX4 yX4_threadAgain yX4_threadAgain, Cond.code yX4_threadAgain cX4_threadAgain 3 (some .int), Cond.fieldLink RX4 27 "ConkerHeirs$State" "wear" "[I", Cond.methodLink RX5 92 yX4_fallenError, Cond.methodLink RX5 95 yX4_crush, Cond.instanceMethod yX4_crush, Cond.selects RX4 yX4_crush yX4_crush, Cond.code yX4_crush cX4_crush 3 (some .int), Cond.fieldLink RX4 46 "ConkerHeirs$State" "lostVictories" "I", Cond.methodLink RX4 79 yX4_takeVictoriesOfSmashed, Cond.instanceMethod yX4_takeVictoriesOfSmashed, Cond.selects RX4 yX4_takeVictoriesOfSmashed yX4_takeVictoriesOfSmashed, Cond.code yX4_takeVictoriesOfSmashed cX4_takeVictoriesOfSmashed 3 (some .int), Cond.fieldLink RX4 30 "ConkerHeirs$State" "victories" "[I", Cond.fieldLink RX4 33 "ConkerHeirs$State" "boasts" "[I", Cond.methodLink RX5 78 yX4_strikeError, Cond.instanceMethod yX4_strikeError, Cond.selects RX4 yX4_strikeError yX4_strikeError, Cond.code yX4_strikeError cX4_strikeError 4 (some .int), Cond.methodLink RX4 62 yX4_pairError]
def wsX5_carryOutOrder_r3 : List Cond := [Cond.instanceMethod yX4_pairError, Cond.selects RX4 yX4_pairError yX4_pairError, Cond.code yX4_pairError cX4_pairError 4 (some .int), Cond.methodLink RX4 71 yX4_areInPlay, Cond.instanceMethod yX4_areInPlay, Cond.selects RX4 yX4_areInPlay yX4_areInPlay, Cond.code yX4_areInPlay cX4_areInPlay 3 (some .boolean), Cond.methodLink RX5 82 yX4_hit, Cond.instanceMethod yX4_hit, Cond.selects RX4 yX4_hit yX4_hit, Cond.code yX4_hit cX4_hit 6 (some .int), Cond.fieldLink RX4 21 "ConkerHeirs$State" "hardness" "[I", Cond.fieldLink RX4 49 "ConkerHeirs$State" "strikes" "I", Cond.fieldLink RX4 24 "ConkerHeirs$State" "crack" "[I", Cond.methodLink RX4 86 Lib.Math.min.name, Cond.static Lib.Math.min.name, Cond.initialized "java/lang/Math", Cond.code Lib.Math.min.name Lib.Math.min.code 2 (some .int), Cond.methodLink RX4 82 yX4_quotient, Cond.static yX4_quotient, Cond.code yX4_quotient cX4_quotient 2 (some .int), Cond.methodLink RX4 91 yX4_settleSmashes, Cond.instanceMethod yX4_settleSmashes, Cond.selects RX4 yX4_settleSmashes yX4_settleSmashes]
def wsX5_carryOutOrder_r4 : List Cond := [Cond.code yX4_settleSmashes cX4_settleSmashes 5 none, Cond.methodLink RX4 115 yX4_crush, Cond.methodLink RX4 118 yX4_inherit, Cond.instanceMethod yX4_inherit, Cond.selects RX4 yX4_inherit yX4_inherit, Cond.code yX4_inherit cX4_inherit 3 none, Cond.fieldLink RX4 39 "ConkerHeirs$State" "smashedBy" "[I", Cond.methodLink RX4 95 yX4_fallIfWorn, Cond.instanceMethod yX4_fallIfWorn, Cond.selects RX4 yX4_fallIfWorn yX4_fallIfWorn, Cond.code yX4_fallIfWorn cX4_fallIfWorn 2 none, Cond.methodLink RX4 99 yX4_outcome, Cond.instanceMethod yX4_outcome, Cond.selects RX4 yX4_outcome yX4_outcome, Cond.code yX4_outcome cX4_outcome 4 (some .int)]
def wsX5_carryOutOrder : List Cond := .code yX5_carryOutOrder cX5_carryOutOrder 2 (some .int) :: ((wsX5_carryOutOrder_r1 ++ (wsX5_carryOutOrder_r2 ++ (wsX5_carryOutOrder_r3 ++ wsX5_carryOutOrder_r4))) ++ wsX50 ++ wsX30 ++ wsX40)
def wsX5_run_r1 : List Cond := [Cond.fieldLink RX5 32 "ConkerHeirs" "script" "LConkerHeirs$Script;", Cond.fieldLink RX5 25 "ConkerHeirs" "history" "LConkerHeirs$History;", Cond.fieldLink RX5 10 "ConkerHeirs" "now" "LConkerHeirs$State;", Cond.methodLink RX5 143 yX3_findFault, Cond.instanceMethod yX3_findFault, Cond.selects RX3 yX3_findFault yX3_findFault, Cond.initialized RX3, Cond.code yX3_findFault cX3_findFault 2 (some .int), Cond.fieldLink RX3 19 "ConkerHeirs$Script" "at" "I", Cond.fieldLink RX3 15 "ConkerHeirs$Script" "length" "I", Cond.methodLink RX3 35 yX3_rewind, Cond.instanceMethod yX3_rewind, Cond.selects RX3 yX3_rewind yX3_rewind, Cond.code yX3_rewind cX3_rewind 1 none, Cond.methodLink RX3 38 yX3_readOrder, Cond.instanceMethod yX3_readOrder, Cond.selects RX3 yX3_readOrder yX3_readOrder, Cond.code yX3_readOrder cX3_readOrder 1 (some .boolean), Cond.fieldLink RX3 22 "ConkerHeirs$Script" "kind" "C", Cond.fieldLink RX3 26 "ConkerHeirs$Script" "first" "I", Cond.fieldLink RX3 29 "ConkerHeirs$Script" "second" "I", Cond.fieldLink RX3 32 "ConkerHeirs$Script" "swing" "I", Cond.methodLink RX3 46 yX3_sign, Cond.instanceMethod yX3_sign]
def wsX5_run_r2 : List Cond := [Cond.selects RX3 yX3_sign yX3_sign, Cond.code yX3_sign cX3_sign 1 (some .char), Cond.fieldLink RX3 9 "ConkerHeirs$Script" "signs" "[C", Cond.methodLink RX3 50 yX3_readConker, Cond.instanceMethod yX3_readConker, Cond.selects RX3 yX3_readConker yX3_readConker, Cond.code yX3_readConker cX3_readConker 3 (some .int), Cond.methodLink RX3 54 yX3_digit, Cond.instanceMethod yX3_digit, Cond.selects RX3 yX3_digit yX3_digit, Cond.code yX3_digit cX3_digit 2 (some .int), Cond.methodLink RX3 42 yX3_take, Cond.instanceMethod yX3_take, Cond.selects RX3 yX3_take yX3_take, Cond.code yX3_take cX3_take 2 (some .boolean), Cond.methodLink RX5 70 yX1_keep, Cond.instanceMethod yX1_keep, Cond.selects RX1 yX1_keep yX1_keep, Cond.initialized RX1, Cond.code yX1_keep cX1_keep 2 none, Cond.fieldLink RX1 17 "ConkerHeirs$History" "held" "I", Cond.fieldLink RX1 11 "ConkerHeirs$History" "states" "[LConkerHeirs$State;", Cond.methodLink RX1 22 yX1_dropOldest, Cond.instanceMethod yX1_dropOldest]
def wsX5_run_r3 : List Cond := [Cond.selects RX1 yX1_dropOldest yX1_dropOldest, Cond.code yX1_dropOldest cX1_dropOldest 3 none, Cond.methodLink RX1 25 yX4_copyFrom, Cond.instanceMethod yX4_copyFrom, Cond.selects RX4 yX4_copyFrom yX4_copyFrom, Cond.initialized RX4, Cond.code yX4_copyFrom cX4_copyFrom 2 none, Cond.fieldLink RX4 9 "ConkerHeirs$State" "strings" "[I", Cond.methodLink RX4 52 arraycopyName, Cond.native arraycopyName, Cond.static arraycopyName, Cond.initialized "java/lang/System", Cond.fieldLink RX4 15 "ConkerHeirs$State" "shame" "[I", Cond.fieldLink RX4 18 "ConkerHeirs$State" "owner" "[I", Cond.fieldLink RX4 21 "ConkerHeirs$State" "hardness" "[I", Cond.fieldLink RX4 24 "ConkerHeirs$State" "crack" "[I", Cond.fieldLink RX4 27 "ConkerHeirs$State" "wear" "[I", Cond.fieldLink RX4 30 "ConkerHeirs$State" "victories" "[I", Cond.fieldLink RX4 33 "ConkerHeirs$State" "boasts" "[I", Cond.fieldLink RX4 36 "ConkerHeirs$State" "how" "[I", Cond.fieldLink RX4 39 "ConkerHeirs$State" "smashedBy" "[I", Cond.fieldLink RX4 42 "ConkerHeirs$State" "conkers" "I", Cond.fieldLink RX4 46 "ConkerHeirs$State" "lostVictories" "I", Cond.fieldLink RX4 49 "ConkerHeirs$State" "strikes" "I"]
def wsX5_run_r4 : List Cond := [Cond.methodLink RX5 146 yX3_rewind, Cond.methodLink RX5 149 yX3_readOrder, Cond.methodLink RX5 153 yX5_carryOutOrder, Cond.instanceMethod yX5_carryOutOrder, Cond.selects RX5 yX5_carryOutOrder yX5_carryOutOrder, Cond.initialized RX5, Cond.code yX5_carryOutOrder cX5_carryOutOrder 2 (some .int), Cond.fieldLink RX5 224 "ConkerHeirs$Script" "kind" "C", Cond.fieldLink RX5 228 "ConkerHeirs$Script" "first" "I", Cond.fieldLink RX5 231 "ConkerHeirs$Script" "second" "I", Cond.fieldLink RX5 234 "ConkerHeirs$Script" "swing" "I", Cond.methodLink RX5 85 yX4_mendError, Cond.instanceMethod yX4_mendError, Cond.selects RX4 yX4_mendError yX4_mendError, Cond.code yX4_mendError cX4_mendError 3 (some .int), Cond.methodLink RX4 75 yX4_fallenError, Cond.instanceMethod yX4_fallenError, Cond.selects RX4 yX4_fallenError yX4_fallenError, Cond.code yX4_fallenError cX4_fallenError 2 (some .int), Cond.methodLink RX4 67 yX4_hasConker, Cond.instanceMethod yX4_hasConker, Cond.selects RX4 yX4_hasConker yX4_hasConker, Cond.code yX4_hasConker cX4_hasConker 2 (some .boolean), Cond.static yX5_isWithin]
def wsX5_run_r5 : List Cond := [Cond.code yX5_isWithin cX5_isWithin 3 (some .boolean), Cond.methodLink RX5 89 yX4_threadAgain, Cond.instanceMethod yX4_threadAgain, Cond.selects RX4 yX4_threadAgain yX4_threadAgain, Cond.code yX4_threadAgain cX4_threadAgain 3 (some .int), Cond.methodLink RX5 92 yX4_fallenError, Cond.methodLink RX5 95 yX4_crush, Cond.instanceMethod yX4_crush, Cond.selects RX4 yX4_crush yX4_crush, Cond.code yX4_crush cX4_crush 3 (some .int), Cond.methodLink RX4 79 yX4_takeVictoriesOfSmashed, Cond.instanceMethod yX4_takeVictoriesOfSmashed, Cond.selects RX4 yX4_takeVictoriesOfSmashed yX4_takeVictoriesOfSmashed, Cond.code yX4_takeVictoriesOfSmashed cX4_takeVictoriesOfSmashed 3 (some .int), Cond.methodLink RX5 78 yX4_strikeError, Cond.instanceMethod yX4_strikeError, Cond.selects RX4 yX4_strikeError yX4_strikeError, Cond.code yX4_strikeError cX4_strikeError 4 (some .int), Cond.methodLink RX4 62 yX4_pairError, Cond.instanceMethod yX4_pairError, Cond.selects RX4 yX4_pairError yX4_pairError, Cond.code yX4_pairError cX4_pairError 4 (some .int), Cond.methodLink RX4 71 yX4_areInPlay, Cond.instanceMethod yX4_areInPlay]
def wsX5_run_r6 : List Cond := [Cond.selects RX4 yX4_areInPlay yX4_areInPlay, Cond.code yX4_areInPlay cX4_areInPlay 3 (some .boolean), Cond.methodLink RX5 82 yX4_hit, Cond.instanceMethod yX4_hit, Cond.selects RX4 yX4_hit yX4_hit, Cond.code yX4_hit cX4_hit 6 (some .int), Cond.methodLink RX4 86 Lib.Math.min.name, Cond.static Lib.Math.min.name, Cond.initialized "java/lang/Math", Cond.code Lib.Math.min.name Lib.Math.min.code 2 (some .int), Cond.methodLink RX4 82 yX4_quotient, Cond.static yX4_quotient, Cond.code yX4_quotient cX4_quotient 2 (some .int), Cond.methodLink RX4 91 yX4_settleSmashes, Cond.instanceMethod yX4_settleSmashes, Cond.selects RX4 yX4_settleSmashes yX4_settleSmashes, Cond.code yX4_settleSmashes cX4_settleSmashes 5 none, Cond.methodLink RX4 115 yX4_crush, Cond.methodLink RX4 118 yX4_inherit, Cond.instanceMethod yX4_inherit, Cond.selects RX4 yX4_inherit yX4_inherit, Cond.code yX4_inherit cX4_inherit 3 none, Cond.methodLink RX4 95 yX4_fallIfWorn, Cond.instanceMethod yX4_fallIfWorn]
def wsX5_run_r7 : List Cond := [Cond.selects RX4 yX4_fallIfWorn yX4_fallIfWorn, Cond.code yX4_fallIfWorn cX4_fallIfWorn 2 none, Cond.methodLink RX4 99 yX4_outcome, Cond.instanceMethod yX4_outcome, Cond.selects RX4 yX4_outcome yX4_outcome, Cond.code yX4_outcome cX4_outcome 4 (some .int), Cond.methodLink RX5 156 yX3_take]
def wsX5_run : List Cond := .code yX5_run cX5_run 3 (some .int) :: ((wsX5_run_r1 ++ (wsX5_run_r2 ++ (wsX5_run_r3 ++ (wsX5_run_r4 ++ (wsX5_run_r5 ++ (wsX5_run_r6 ++ wsX5_run_r7)))))) ++ wsX50 ++ wsX30 ++ wsX10 ++ wsX40)
def wsX5_undo_r1 : List Cond := [Cond.fieldLink RX5 25 "ConkerHeirs" "history" "LConkerHeirs$History;", Cond.fieldLink RX5 10 "ConkerHeirs" "now" "LConkerHeirs$State;", Cond.methodLink RX5 160 yX1_bringBack, Cond.instanceMethod yX1_bringBack, Cond.selects RX1 yX1_bringBack yX1_bringBack, Cond.initialized RX1, Cond.code yX1_bringBack cX1_bringBack 2 (some .int), Cond.fieldLink RX1 17 "ConkerHeirs$History" "held" "I", Cond.fieldLink RX1 11 "ConkerHeirs$History" "states" "[LConkerHeirs$State;", Cond.methodLink RX1 25 yX4_copyFrom, Cond.instanceMethod yX4_copyFrom, Cond.selects RX4 yX4_copyFrom yX4_copyFrom, Cond.initialized RX4, Cond.code yX4_copyFrom cX4_copyFrom 2 none, Cond.fieldLink RX4 9 "ConkerHeirs$State" "strings" "[I", Cond.methodLink RX4 52 arraycopyName, Cond.native arraycopyName, Cond.static arraycopyName, Cond.initialized "java/lang/System", Cond.fieldLink RX4 15 "ConkerHeirs$State" "shame" "[I", Cond.fieldLink RX4 18 "ConkerHeirs$State" "owner" "[I", Cond.fieldLink RX4 21 "ConkerHeirs$State" "hardness" "[I", Cond.fieldLink RX4 24 "ConkerHeirs$State" "crack" "[I", Cond.fieldLink RX4 27 "ConkerHeirs$State" "wear" "[I"]
def wsX5_undo_r2 : List Cond := [Cond.fieldLink RX4 30 "ConkerHeirs$State" "victories" "[I", Cond.fieldLink RX4 33 "ConkerHeirs$State" "boasts" "[I", Cond.fieldLink RX4 36 "ConkerHeirs$State" "how" "[I", Cond.fieldLink RX4 39 "ConkerHeirs$State" "smashedBy" "[I", Cond.fieldLink RX4 42 "ConkerHeirs$State" "conkers" "I", Cond.fieldLink RX4 46 "ConkerHeirs$State" "lostVictories" "I", Cond.fieldLink RX4 49 "ConkerHeirs$State" "strikes" "I"]
def wsX5_undo : List Cond := .code yX5_undo cX5_undo 1 (some .int) :: ((wsX5_undo_r1 ++ wsX5_undo_r2) ++ wsX50 ++ wsX10 ++ wsX40)
def wsX5_save_r1 : List Cond := [Cond.fieldLink RX5 16 "ConkerHeirs" "snapshot" "LConkerHeirs$State;", Cond.fieldLink RX5 10 "ConkerHeirs" "now" "LConkerHeirs$State;", Cond.fieldLink RX5 50 "ConkerHeirs" "hasSnapshot" "Z", Cond.methodLink RX5 164 yX4_copyFrom, Cond.instanceMethod yX4_copyFrom, Cond.selects RX4 yX4_copyFrom yX4_copyFrom, Cond.initialized RX4, Cond.code yX4_copyFrom cX4_copyFrom 2 none, Cond.fieldLink RX4 9 "ConkerHeirs$State" "strings" "[I", Cond.methodLink RX4 52 arraycopyName, Cond.native arraycopyName, Cond.static arraycopyName, Cond.initialized "java/lang/System", Cond.fieldLink RX4 15 "ConkerHeirs$State" "shame" "[I", Cond.fieldLink RX4 18 "ConkerHeirs$State" "owner" "[I", Cond.fieldLink RX4 21 "ConkerHeirs$State" "hardness" "[I", Cond.fieldLink RX4 24 "ConkerHeirs$State" "crack" "[I", Cond.fieldLink RX4 27 "ConkerHeirs$State" "wear" "[I", Cond.fieldLink RX4 30 "ConkerHeirs$State" "victories" "[I", Cond.fieldLink RX4 33 "ConkerHeirs$State" "boasts" "[I", Cond.fieldLink RX4 36 "ConkerHeirs$State" "how" "[I", Cond.fieldLink RX4 39 "ConkerHeirs$State" "smashedBy" "[I", Cond.fieldLink RX4 42 "ConkerHeirs$State" "conkers" "I", Cond.fieldLink RX4 46 "ConkerHeirs$State" "lostVictories" "I"]
def wsX5_save_r2 : List Cond := [Cond.fieldLink RX4 49 "ConkerHeirs$State" "strikes" "I", Cond.methodLink RX5 167 yX4_conkersBeing, Cond.instanceMethod yX4_conkersBeing, Cond.selects RX4 yX4_conkersBeing yX4_conkersBeing, Cond.code yX4_conkersBeing cX4_conkersBeing 5 (some .int), Cond.methodLink RX4 121 yX4_isOf, Cond.instanceMethod yX4_isOf, Cond.selects RX4 yX4_isOf yX4_isOf, Cond.code yX4_isOf cX4_isOf 3 (some .boolean)]
def wsX5_save : List Cond := .code yX5_save cX5_save 1 (some .int) :: ((wsX5_save_r1 ++ wsX5_save_r2) ++ wsX50 ++ wsX40)
def wsX5_restore_r1 : List Cond := [Cond.fieldLink RX5 50 "ConkerHeirs" "hasSnapshot" "Z", Cond.fieldLink RX5 25 "ConkerHeirs" "history" "LConkerHeirs$History;", Cond.fieldLink RX5 10 "ConkerHeirs" "now" "LConkerHeirs$State;", Cond.fieldLink RX5 16 "ConkerHeirs" "snapshot" "LConkerHeirs$State;", Cond.methodLink RX5 70 yX1_keep, Cond.instanceMethod yX1_keep, Cond.selects RX1 yX1_keep yX1_keep, Cond.initialized RX1, Cond.code yX1_keep cX1_keep 2 none, Cond.fieldLink RX1 17 "ConkerHeirs$History" "held" "I", Cond.fieldLink RX1 11 "ConkerHeirs$History" "states" "[LConkerHeirs$State;", Cond.methodLink RX1 22 yX1_dropOldest, Cond.instanceMethod yX1_dropOldest, Cond.selects RX1 yX1_dropOldest yX1_dropOldest, Cond.code yX1_dropOldest cX1_dropOldest 3 none, Cond.methodLink RX1 25 yX4_copyFrom, Cond.instanceMethod yX4_copyFrom, Cond.selects RX4 yX4_copyFrom yX4_copyFrom, Cond.initialized RX4, Cond.code yX4_copyFrom cX4_copyFrom 2 none, Cond.fieldLink RX4 9 "ConkerHeirs$State" "strings" "[I", Cond.methodLink RX4 52 arraycopyName, Cond.native arraycopyName, Cond.static arraycopyName]
def wsX5_restore_r2 : List Cond := [Cond.initialized "java/lang/System", Cond.fieldLink RX4 15 "ConkerHeirs$State" "shame" "[I", Cond.fieldLink RX4 18 "ConkerHeirs$State" "owner" "[I", Cond.fieldLink RX4 21 "ConkerHeirs$State" "hardness" "[I", Cond.fieldLink RX4 24 "ConkerHeirs$State" "crack" "[I", Cond.fieldLink RX4 27 "ConkerHeirs$State" "wear" "[I", Cond.fieldLink RX4 30 "ConkerHeirs$State" "victories" "[I", Cond.fieldLink RX4 33 "ConkerHeirs$State" "boasts" "[I", Cond.fieldLink RX4 36 "ConkerHeirs$State" "how" "[I", Cond.fieldLink RX4 39 "ConkerHeirs$State" "smashedBy" "[I", Cond.fieldLink RX4 42 "ConkerHeirs$State" "conkers" "I", Cond.fieldLink RX4 46 "ConkerHeirs$State" "lostVictories" "I", Cond.fieldLink RX4 49 "ConkerHeirs$State" "strikes" "I", Cond.methodLink RX5 164 yX4_copyFrom, Cond.methodLink RX5 167 yX4_conkersBeing, Cond.instanceMethod yX4_conkersBeing, Cond.selects RX4 yX4_conkersBeing yX4_conkersBeing, Cond.code yX4_conkersBeing cX4_conkersBeing 5 (some .int), Cond.methodLink RX4 121 yX4_isOf, Cond.instanceMethod yX4_isOf, Cond.selects RX4 yX4_isOf yX4_isOf, Cond.code yX4_isOf cX4_isOf 3 (some .boolean)]
def wsX5_restore : List Cond := .code yX5_restore cX5_restore 1 (some .int) :: ((wsX5_restore_r1 ++ wsX5_restore_r2) ++ wsX50 ++ wsX10 ++ wsX40)
def wsX5_conker : List Cond := .code yX5_conker cX5_conker 3 (some .int) :: ([.fieldLink RX5 10 "ConkerHeirs" "now" "LConkerHeirs$State;", .fieldLink RX5 107 "ConkerHeirs$State" "owner" "[I", .fieldLink RX5 170 "ConkerHeirs$State" "hardness" "[I", .fieldLink RX5 173 "ConkerHeirs$State" "crack" "[I", .fieldLink RX5 176 "ConkerHeirs$State" "wear" "[I", .fieldLink RX5 179 "ConkerHeirs$State" "victories" "[I", .fieldLink RX5 104 "ConkerHeirs$State" "boasts" "[I", .fieldLink RX5 101 "ConkerHeirs$State" "how" "[I", .fieldLink RX5 182 "ConkerHeirs$State" "smashedBy" "[I", .methodLink RX5 98 yX4_hasConker, .instanceMethod yX4_hasConker, .selects RX4 yX4_hasConker yX4_hasConker, .initialized RX4, .code yX4_hasConker cX4_hasConker 2 (some .boolean), .fieldLink RX4 42 "ConkerHeirs$State" "conkers" "I", .static yX5_isWithin, .initialized RX5, .code yX5_isWithin cX5_isWithin 3 (some .boolean), .methodLink RX5 185 yX4_conkersSmashedBy, .instanceMethod yX4_conkersSmashedBy, .selects RX4 yX4_conkersSmashedBy yX4_conkersSmashedBy, .code yX4_conkersSmashedBy cX4_conkersSmashedBy 4 (some .int), .fieldLink RX4 39 "ConkerHeirs$State" "smashedBy" "[I"] ++ wsX50 ++ wsX40)
def wsX5_player_r1 : List Cond := [Cond.fieldLink RX5 10 "ConkerHeirs" "now" "LConkerHeirs$State;", Cond.fieldLink RX5 62 "ConkerHeirs$State" "strings" "[I", Cond.fieldLink RX5 188 "ConkerHeirs$State" "shame" "[I", Cond.methodLink RX5 54 yX5_isPlayer, Cond.static yX5_isPlayer, Cond.initialized RX5, Cond.code yX5_isPlayer cX5_isPlayer 1 (some .boolean), Cond.methodLink RX5 58 yX5_isWithin, Cond.static yX5_isWithin, Cond.code yX5_isWithin cX5_isWithin 3 (some .boolean), Cond.methodLink RX5 167 yX4_conkersBeing, Cond.instanceMethod yX4_conkersBeing, Cond.selects RX4 yX4_conkersBeing yX4_conkersBeing, Cond.initialized RX4, Cond.code yX4_conkersBeing cX4_conkersBeing 5 (some .int), Cond.fieldLink RX4 42 "ConkerHeirs$State" "conkers" "I", Cond.fieldLink RX4 36 "ConkerHeirs$State" "how" "[I", Cond.methodLink RX4 121 yX4_isOf, Cond.instanceMethod yX4_isOf, Cond.selects RX4 yX4_isOf yX4_isOf, Cond.code yX4_isOf cX4_isOf 3 (some .boolean), Cond.fieldLink RX4 18 "ConkerHeirs$State" "owner" "[I", Cond.methodLink RX5 191 yX4_victoriesOf, Cond.instanceMethod yX4_victoriesOf]
def wsX5_player_r2 : List Cond := [Cond.selects RX4 yX4_victoriesOf yX4_victoriesOf, Cond.code yX4_victoriesOf cX4_victoriesOf 4 (some .int), Cond.fieldLink RX4 30 "ConkerHeirs$State" "victories" "[I", Cond.methodLink RX5 194 yX4_conkerToSend, Cond.instanceMethod yX4_conkerToSend, Cond.selects RX4 yX4_conkerToSend yX4_conkerToSend, Cond.code yX4_conkerToSend cX4_conkerToSend 4 (some .int)]
def wsX5_player : List Cond := .code yX5_player cX5_player 3 (some .int) :: ((wsX5_player_r1 ++ wsX5_player_r2) ++ wsX50 ++ wsX40)
def wsX5_ranked : List Cond := .code yX5_ranked cX5_ranked 2 (some .int) :: ([.fieldLink RX5 10 "ConkerHeirs" "now" "LConkerHeirs$State;", .methodLink RX5 197 yX4_conkerAtRank, .instanceMethod yX4_conkerAtRank, .selects RX4 yX4_conkerAtRank yX4_conkerAtRank, .initialized RX4, .code yX4_conkerAtRank cX4_conkerAtRank 3 (some .int), .fieldLink RX4 42 "ConkerHeirs$State" "conkers" "I", .fieldLink RX4 36 "ConkerHeirs$State" "how" "[I", .methodLink RX4 124 yX4_conkersAheadOf, .instanceMethod yX4_conkersAheadOf, .selects RX4 yX4_conkersAheadOf yX4_conkersAheadOf, .code yX4_conkersAheadOf cX4_conkersAheadOf 6 (some .int), .fieldLink RX4 30 "ConkerHeirs$State" "victories" "[I"] ++ wsX50 ++ wsX40)
def wsX5_line : List Cond := .code yX5_line cX5_line 2 (some .int) :: ([.fieldLink RX5 10 "ConkerHeirs" "now" "LConkerHeirs$State;", .methodLink RX5 98 yX4_hasConker, .instanceMethod yX4_hasConker, .selects RX4 yX4_hasConker yX4_hasConker, .initialized RX4, .code yX4_hasConker cX4_hasConker 2 (some .boolean), .fieldLink RX4 42 "ConkerHeirs$State" "conkers" "I", .static yX5_isWithin, .initialized RX5, .code yX5_isWithin cX5_isWithin 3 (some .boolean), .methodLink RX5 200 yX4_lengthOfLine, .instanceMethod yX4_lengthOfLine, .selects RX4 yX4_lengthOfLine yX4_lengthOfLine, .code yX4_lengthOfLine cX4_lengthOfLine 4 (some .int), .methodLink RX4 130 yX4_isInLineOf, .instanceMethod yX4_isInLineOf, .selects RX4 yX4_isInLineOf yX4_isInLineOf, .code yX4_isInLineOf cX4_isInLineOf 5 (some .boolean), .fieldLink RX4 39 "ConkerHeirs$State" "smashedBy" "[I", .methodLink RX4 67 yX4_hasConker] ++ wsX50 ++ wsX40)
def wsX5_count_r1 : List Cond := [Cond.fieldLink RX5 10 "ConkerHeirs" "now" "LConkerHeirs$State;", Cond.fieldLink RX5 66 "ConkerHeirs$State" "conkers" "I", Cond.fieldLink RX5 203 "ConkerHeirs$State" "lostVictories" "I", Cond.fieldLink RX5 206 "ConkerHeirs$State" "strikes" "I", Cond.fieldLink RX5 25 "ConkerHeirs" "history" "LConkerHeirs$History;", Cond.fieldLink RX5 218 "ConkerHeirs$History" "held" "I", Cond.fieldLink RX5 32 "ConkerHeirs" "script" "LConkerHeirs$Script;", Cond.fieldLink RX5 138 "ConkerHeirs$Script" "length" "I", Cond.methodLink RX5 167 yX4_conkersBeing, Cond.instanceMethod yX4_conkersBeing, Cond.selects RX4 yX4_conkersBeing yX4_conkersBeing, Cond.initialized RX4, Cond.code yX4_conkersBeing cX4_conkersBeing 5 (some .int), Cond.fieldLink RX4 42 "ConkerHeirs$State" "conkers" "I", Cond.fieldLink RX4 36 "ConkerHeirs$State" "how" "[I", Cond.methodLink RX4 121 yX4_isOf, Cond.instanceMethod yX4_isOf, Cond.selects RX4 yX4_isOf yX4_isOf, Cond.code yX4_isOf cX4_isOf 3 (some .boolean), Cond.fieldLink RX4 18 "ConkerHeirs$State" "owner" "[I", Cond.methodLink RX5 191 yX4_victoriesOf, Cond.instanceMethod yX4_victoriesOf, Cond.selects RX4 yX4_victoriesOf yX4_victoriesOf, Cond.code yX4_victoriesOf cX4_victoriesOf 4 (some .int)]
def wsX5_count_r2 : List Cond := [Cond.fieldLink RX4 30 "ConkerHeirs$State" "victories" "[I", Cond.methodLink RX5 209 yX4_conkersWithHeir, Cond.instanceMethod yX4_conkersWithHeir, Cond.selects RX4 yX4_conkersWithHeir yX4_conkersWithHeir, Cond.code yX4_conkersWithHeir cX4_conkersWithHeir 1 (some .int), Cond.methodLink RX4 127 yX4_conkersSmashedBy, Cond.instanceMethod yX4_conkersSmashedBy, Cond.selects RX4 yX4_conkersSmashedBy yX4_conkersSmashedBy, Cond.code yX4_conkersSmashedBy cX4_conkersSmashedBy 4 (some .int), Cond.fieldLink RX4 39 "ConkerHeirs$State" "smashedBy" "[I", Cond.methodLink RX5 212 yX4_boastsTold, Cond.instanceMethod yX4_boastsTold, Cond.selects RX4 yX4_boastsTold yX4_boastsTold, Cond.code yX4_boastsTold cX4_boastsTold 3 (some .int), Cond.fieldLink RX4 33 "ConkerHeirs$State" "boasts" "[I", Cond.methodLink RX5 215 yX4_boastsTooHigh, Cond.instanceMethod yX4_boastsTooHigh, Cond.selects RX4 yX4_boastsTooHigh yX4_boastsTooHigh, Cond.code yX4_boastsTooHigh cX4_boastsTooHigh 3 (some .int)]
def wsX5_count : List Cond := .code yX5_count cX5_count 2 (some .int) :: ((wsX5_count_r1 ++ wsX5_count_r2) ++ wsX50 ++ wsX40 ++ wsX10 ++ wsX30)
def wsX5_tryHit_r1 : List Cond := [Cond.fieldLink RX5 19 "ConkerHeirs" "trial" "LConkerHeirs$State;", Cond.fieldLink RX5 10 "ConkerHeirs" "now" "LConkerHeirs$State;", Cond.methodLink RX5 164 yX4_copyFrom, Cond.instanceMethod yX4_copyFrom, Cond.selects RX4 yX4_copyFrom yX4_copyFrom, Cond.initialized RX4, Cond.code yX4_copyFrom cX4_copyFrom 2 none, Cond.fieldLink RX4 9 "ConkerHeirs$State" "strings" "[I", Cond.methodLink RX4 52 arraycopyName, Cond.native arraycopyName, Cond.static arraycopyName, Cond.initialized "java/lang/System", Cond.fieldLink RX4 15 "ConkerHeirs$State" "shame" "[I", Cond.fieldLink RX4 18 "ConkerHeirs$State" "owner" "[I", Cond.fieldLink RX4 21 "ConkerHeirs$State" "hardness" "[I", Cond.fieldLink RX4 24 "ConkerHeirs$State" "crack" "[I", Cond.fieldLink RX4 27 "ConkerHeirs$State" "wear" "[I", Cond.fieldLink RX4 30 "ConkerHeirs$State" "victories" "[I", Cond.fieldLink RX4 33 "ConkerHeirs$State" "boasts" "[I", Cond.fieldLink RX4 36 "ConkerHeirs$State" "how" "[I", Cond.fieldLink RX4 39 "ConkerHeirs$State" "smashedBy" "[I", Cond.fieldLink RX4 42 "ConkerHeirs$State" "conkers" "I", Cond.fieldLink RX4 46 "ConkerHeirs$State" "lostVictories" "I", Cond.fieldLink RX4 49 "ConkerHeirs$State" "strikes" "I"]
def wsX5_tryHit_r2 : List Cond := [Cond.methodLink RX5 82 yX4_hit, Cond.instanceMethod yX4_hit, Cond.selects RX4 yX4_hit yX4_hit, Cond.code yX4_hit cX4_hit 6 (some .int), Cond.methodLink RX4 86 Lib.Math.min.name, Cond.static Lib.Math.min.name, Cond.initialized "java/lang/Math", Cond.code Lib.Math.min.name Lib.Math.min.code 2 (some .int), Cond.methodLink RX4 82 yX4_quotient, Cond.static yX4_quotient, Cond.code yX4_quotient cX4_quotient 2 (some .int), Cond.methodLink RX4 91 yX4_settleSmashes, Cond.instanceMethod yX4_settleSmashes, Cond.selects RX4 yX4_settleSmashes yX4_settleSmashes, Cond.code yX4_settleSmashes cX4_settleSmashes 5 none, Cond.methodLink RX4 115 yX4_crush, Cond.instanceMethod yX4_crush, Cond.selects RX4 yX4_crush yX4_crush, Cond.code yX4_crush cX4_crush 3 (some .int), Cond.methodLink RX4 79 yX4_takeVictoriesOfSmashed, Cond.instanceMethod yX4_takeVictoriesOfSmashed, Cond.selects RX4 yX4_takeVictoriesOfSmashed yX4_takeVictoriesOfSmashed, Cond.code yX4_takeVictoriesOfSmashed cX4_takeVictoriesOfSmashed 3 (some .int), Cond.methodLink RX4 118 yX4_inherit]
def wsX5_tryHit_r3 : List Cond := [Cond.instanceMethod yX4_inherit, Cond.selects RX4 yX4_inherit yX4_inherit, Cond.code yX4_inherit cX4_inherit 3 none, Cond.methodLink RX4 95 yX4_fallIfWorn, Cond.instanceMethod yX4_fallIfWorn, Cond.selects RX4 yX4_fallIfWorn yX4_fallIfWorn, Cond.code yX4_fallIfWorn cX4_fallIfWorn 2 none, Cond.methodLink RX4 99 yX4_outcome, Cond.instanceMethod yX4_outcome, Cond.selects RX4 yX4_outcome yX4_outcome, Cond.code yX4_outcome cX4_outcome 4 (some .int)]
def wsX5_tryHit : List Cond := .code yX5_tryHit cX5_tryHit 4 (some .int) :: ((wsX5_tryHit_r1 ++ (wsX5_tryHit_r2 ++ wsX5_tryHit_r3)) ++ wsX50 ++ wsX40)
def wsX5_ifStruck_r1 : List Cond := [Cond.fieldLink RX5 10 "ConkerHeirs" "now" "LConkerHeirs$State;", Cond.methodLink RX5 78 yX4_strikeError, Cond.instanceMethod yX4_strikeError, Cond.selects RX4 yX4_strikeError yX4_strikeError, Cond.initialized RX4, Cond.code yX4_strikeError cX4_strikeError 4 (some .int), Cond.static yX5_isWithin, Cond.initialized RX5, Cond.code yX5_isWithin cX5_isWithin 3 (some .boolean), Cond.methodLink RX4 62 yX4_pairError, Cond.instanceMethod yX4_pairError, Cond.selects RX4 yX4_pairError yX4_pairError, Cond.code yX4_pairError cX4_pairError 4 (some .int), Cond.fieldLink RX4 18 "ConkerHeirs$State" "owner" "[I", Cond.methodLink RX4 67 yX4_hasConker, Cond.instanceMethod yX4_hasConker, Cond.selects RX4 yX4_hasConker yX4_hasConker, Cond.code yX4_hasConker cX4_hasConker 2 (some .boolean), Cond.fieldLink RX4 42 "ConkerHeirs$State" "conkers" "I", Cond.methodLink RX4 71 yX4_areInPlay, Cond.instanceMethod yX4_areInPlay, Cond.selects RX4 yX4_areInPlay yX4_areInPlay, Cond.code yX4_areInPlay cX4_areInPlay 3 (some .boolean), Cond.fieldLink RX4 36 "ConkerHeirs$State" "how" "[I"]
def wsX5_ifStruck_r2 : List Cond := [Cond.methodLink RX5 221 yX5_tryHit, Cond.instanceMethod yX5_tryHit, Cond.selects RX5 yX5_tryHit yX5_tryHit, Cond.code yX5_tryHit cX5_tryHit 4 (some .int), Cond.fieldLink RX5 19 "ConkerHeirs" "trial" "LConkerHeirs$State;", Cond.methodLink RX5 164 yX4_copyFrom, Cond.instanceMethod yX4_copyFrom, Cond.selects RX4 yX4_copyFrom yX4_copyFrom, Cond.code yX4_copyFrom cX4_copyFrom 2 none, Cond.fieldLink RX4 9 "ConkerHeirs$State" "strings" "[I", Cond.methodLink RX4 52 arraycopyName, Cond.native arraycopyName, Cond.static arraycopyName, Cond.initialized "java/lang/System", Cond.fieldLink RX4 15 "ConkerHeirs$State" "shame" "[I", Cond.fieldLink RX4 21 "ConkerHeirs$State" "hardness" "[I", Cond.fieldLink RX4 24 "ConkerHeirs$State" "crack" "[I", Cond.fieldLink RX4 27 "ConkerHeirs$State" "wear" "[I", Cond.fieldLink RX4 30 "ConkerHeirs$State" "victories" "[I", Cond.fieldLink RX4 33 "ConkerHeirs$State" "boasts" "[I", Cond.fieldLink RX4 39 "ConkerHeirs$State" "smashedBy" "[I", Cond.fieldLink RX4 46 "ConkerHeirs$State" "lostVictories" "I", Cond.fieldLink RX4 49 "ConkerHeirs$State" "strikes" "I", Cond.methodLink RX5 82 yX4_hit]
def wsX5_ifStruck_r3 : List Cond := [Cond.instanceMethod yX4_hit, Cond.selects RX4 yX4_hit yX4_hit, Cond.code yX4_hit cX4_hit 6 (some .int), Cond.methodLink RX4 86 Lib.Math.min.name, Cond.static Lib.Math.min.name, Cond.initialized "java/lang/Math", Cond.code Lib.Math.min.name Lib.Math.min.code 2 (some .int), Cond.methodLink RX4 82 yX4_quotient, Cond.static yX4_quotient, Cond.code yX4_quotient cX4_quotient 2 (some .int), Cond.methodLink RX4 91 yX4_settleSmashes, Cond.instanceMethod yX4_settleSmashes, Cond.selects RX4 yX4_settleSmashes yX4_settleSmashes, Cond.code yX4_settleSmashes cX4_settleSmashes 5 none, Cond.methodLink RX4 115 yX4_crush, Cond.instanceMethod yX4_crush, Cond.selects RX4 yX4_crush yX4_crush, Cond.code yX4_crush cX4_crush 3 (some .int), Cond.methodLink RX4 79 yX4_takeVictoriesOfSmashed, Cond.instanceMethod yX4_takeVictoriesOfSmashed, Cond.selects RX4 yX4_takeVictoriesOfSmashed yX4_takeVictoriesOfSmashed, Cond.code yX4_takeVictoriesOfSmashed cX4_takeVictoriesOfSmashed 3 (some .int), Cond.methodLink RX4 118 yX4_inherit, Cond.instanceMethod yX4_inherit]
def wsX5_ifStruck_r4 : List Cond := [Cond.selects RX4 yX4_inherit yX4_inherit, Cond.code yX4_inherit cX4_inherit 3 none, Cond.methodLink RX4 95 yX4_fallIfWorn, Cond.instanceMethod yX4_fallIfWorn, Cond.selects RX4 yX4_fallIfWorn yX4_fallIfWorn, Cond.code yX4_fallIfWorn cX4_fallIfWorn 2 none, Cond.methodLink RX4 99 yX4_outcome, Cond.instanceMethod yX4_outcome, Cond.selects RX4 yX4_outcome yX4_outcome, Cond.code yX4_outcome cX4_outcome 4 (some .int)]
def wsX5_ifStruck : List Cond := .code yX5_ifStruck cX5_ifStruck 5 (some .int) :: ((wsX5_ifStruck_r1 ++ (wsX5_ifStruck_r2 ++ (wsX5_ifStruck_r3 ++ wsX5_ifStruck_r4))) ++ wsX50 ++ wsX40)
def wsX5_leastSwing_r1 : List Cond := [Cond.fieldLink RX5 10 "ConkerHeirs" "now" "LConkerHeirs$State;", Cond.methodLink RX5 78 yX4_strikeError, Cond.instanceMethod yX4_strikeError, Cond.selects RX4 yX4_strikeError yX4_strikeError, Cond.initialized RX4, Cond.code yX4_strikeError cX4_strikeError 4 (some .int), Cond.static yX5_isWithin, Cond.initialized RX5, Cond.code yX5_isWithin cX5_isWithin 3 (some .boolean), Cond.methodLink RX4 62 yX4_pairError, Cond.instanceMethod yX4_pairError, Cond.selects RX4 yX4_pairError yX4_pairError, Cond.code yX4_pairError cX4_pairError 4 (some .int), Cond.fieldLink RX4 18 "ConkerHeirs$State" "owner" "[I", Cond.methodLink RX4 67 yX4_hasConker, Cond.instanceMethod yX4_hasConker, Cond.selects RX4 yX4_hasConker yX4_hasConker, Cond.code yX4_hasConker cX4_hasConker 2 (some .boolean), Cond.fieldLink RX4 42 "ConkerHeirs$State" "conkers" "I", Cond.methodLink RX4 71 yX4_areInPlay, Cond.instanceMethod yX4_areInPlay, Cond.selects RX4 yX4_areInPlay yX4_areInPlay, Cond.code yX4_areInPlay cX4_areInPlay 3 (some .boolean), Cond.fieldLink RX4 36 "ConkerHeirs$State" "how" "[I"]
def wsX5_leastSwing_r2 : List Cond := [Cond.methodLink RX5 221 yX5_tryHit, Cond.instanceMethod yX5_tryHit, Cond.selects RX5 yX5_tryHit yX5_tryHit, Cond.code yX5_tryHit cX5_tryHit 4 (some .int), Cond.fieldLink RX5 19 "ConkerHeirs" "trial" "LConkerHeirs$State;", Cond.methodLink RX5 164 yX4_copyFrom, Cond.instanceMethod yX4_copyFrom, Cond.selects RX4 yX4_copyFrom yX4_copyFrom, Cond.code yX4_copyFrom cX4_copyFrom 2 none, Cond.fieldLink RX4 9 "ConkerHeirs$State" "strings" "[I", Cond.methodLink RX4 52 arraycopyName, Cond.native arraycopyName, Cond.static arraycopyName, Cond.initialized "java/lang/System", Cond.fieldLink RX4 15 "ConkerHeirs$State" "shame" "[I", Cond.fieldLink RX4 21 "ConkerHeirs$State" "hardness" "[I", Cond.fieldLink RX4 24 "ConkerHeirs$State" "crack" "[I", Cond.fieldLink RX4 27 "ConkerHeirs$State" "wear" "[I", Cond.fieldLink RX4 30 "ConkerHeirs$State" "victories" "[I", Cond.fieldLink RX4 33 "ConkerHeirs$State" "boasts" "[I", Cond.fieldLink RX4 39 "ConkerHeirs$State" "smashedBy" "[I", Cond.fieldLink RX4 46 "ConkerHeirs$State" "lostVictories" "I", Cond.fieldLink RX4 49 "ConkerHeirs$State" "strikes" "I", Cond.methodLink RX5 82 yX4_hit]
def wsX5_leastSwing_r3 : List Cond := [Cond.instanceMethod yX4_hit, Cond.selects RX4 yX4_hit yX4_hit, Cond.code yX4_hit cX4_hit 6 (some .int), Cond.methodLink RX4 86 Lib.Math.min.name, Cond.static Lib.Math.min.name, Cond.initialized "java/lang/Math", Cond.code Lib.Math.min.name Lib.Math.min.code 2 (some .int), Cond.methodLink RX4 82 yX4_quotient, Cond.static yX4_quotient, Cond.code yX4_quotient cX4_quotient 2 (some .int), Cond.methodLink RX4 91 yX4_settleSmashes, Cond.instanceMethod yX4_settleSmashes, Cond.selects RX4 yX4_settleSmashes yX4_settleSmashes, Cond.code yX4_settleSmashes cX4_settleSmashes 5 none, Cond.methodLink RX4 115 yX4_crush, Cond.instanceMethod yX4_crush, Cond.selects RX4 yX4_crush yX4_crush, Cond.code yX4_crush cX4_crush 3 (some .int), Cond.methodLink RX4 79 yX4_takeVictoriesOfSmashed, Cond.instanceMethod yX4_takeVictoriesOfSmashed, Cond.selects RX4 yX4_takeVictoriesOfSmashed yX4_takeVictoriesOfSmashed, Cond.code yX4_takeVictoriesOfSmashed cX4_takeVictoriesOfSmashed 3 (some .int), Cond.methodLink RX4 118 yX4_inherit, Cond.instanceMethod yX4_inherit]
def wsX5_leastSwing_r4 : List Cond := [Cond.selects RX4 yX4_inherit yX4_inherit, Cond.code yX4_inherit cX4_inherit 3 none, Cond.methodLink RX4 95 yX4_fallIfWorn, Cond.instanceMethod yX4_fallIfWorn, Cond.selects RX4 yX4_fallIfWorn yX4_fallIfWorn, Cond.code yX4_fallIfWorn cX4_fallIfWorn 2 none, Cond.methodLink RX4 99 yX4_outcome, Cond.instanceMethod yX4_outcome, Cond.selects RX4 yX4_outcome yX4_outcome, Cond.code yX4_outcome cX4_outcome 4 (some .int)]
def wsX5_leastSwing : List Cond := .code yX5_leastSwing cX5_leastSwing 6 (some .int) :: ((wsX5_leastSwing_r1 ++ (wsX5_leastSwing_r2 ++ (wsX5_leastSwing_r3 ++ wsX5_leastSwing_r4))) ++ wsX50 ++ wsX40)
def wsX5_winner_r1 : List Cond := [Cond.fieldLink RX5 10 "ConkerHeirs" "now" "LConkerHeirs$State;", Cond.fieldLink RX5 19 "ConkerHeirs" "trial" "LConkerHeirs$State;", Cond.fieldLink RX5 39 "ConkerHeirs" "draws" "LConkerHeirs$Draws;", Cond.fieldLink RX5 101 "ConkerHeirs$State" "how" "[I", Cond.methodLink RX5 113 yX4_boutError, Cond.instanceMethod yX4_boutError, Cond.selects RX4 yX4_boutError yX4_boutError, Cond.initialized RX4, Cond.code yX4_boutError cX4_boutError 4 (some .int), Cond.constant RX4 66 (65535), Cond.static yX5_isWithin, Cond.initialized RX5, Cond.code yX5_isWithin cX5_isWithin 3 (some .boolean), Cond.methodLink RX4 62 yX4_pairError, Cond.instanceMethod yX4_pairError, Cond.selects RX4 yX4_pairError yX4_pairError, Cond.code yX4_pairError cX4_pairError 4 (some .int), Cond.fieldLink RX4 18 "ConkerHeirs$State" "owner" "[I", Cond.methodLink RX4 67 yX4_hasConker, Cond.instanceMethod yX4_hasConker, Cond.selects RX4 yX4_hasConker yX4_hasConker, Cond.code yX4_hasConker cX4_hasConker 2 (some .boolean), Cond.fieldLink RX4 42 "ConkerHeirs$State" "conkers" "I", Cond.methodLink RX4 71 yX4_areInPlay]
def wsX5_winner_r2 : List Cond := [Cond.instanceMethod yX4_areInPlay, Cond.selects RX4 yX4_areInPlay yX4_areInPlay, Cond.code yX4_areInPlay cX4_areInPlay 3 (some .boolean), Cond.fieldLink RX4 36 "ConkerHeirs$State" "how" "[I", Cond.methodLink RX5 164 yX4_copyFrom, Cond.instanceMethod yX4_copyFrom, Cond.selects RX4 yX4_copyFrom yX4_copyFrom, Cond.code yX4_copyFrom cX4_copyFrom 2 none, Cond.fieldLink RX4 9 "ConkerHeirs$State" "strings" "[I", Cond.methodLink RX4 52 arraycopyName, Cond.native arraycopyName, Cond.static arraycopyName, Cond.initialized "java/lang/System", Cond.fieldLink RX4 15 "ConkerHeirs$State" "shame" "[I", Cond.fieldLink RX4 21 "ConkerHeirs$State" "hardness" "[I", Cond.fieldLink RX4 24 "ConkerHeirs$State" "crack" "[I", Cond.fieldLink RX4 27 "ConkerHeirs$State" "wear" "[I", Cond.fieldLink RX4 30 "ConkerHeirs$State" "victories" "[I", Cond.fieldLink RX4 33 "ConkerHeirs$State" "boasts" "[I", Cond.fieldLink RX4 39 "ConkerHeirs$State" "smashedBy" "[I", Cond.fieldLink RX4 46 "ConkerHeirs$State" "lostVictories" "I", Cond.fieldLink RX4 49 "ConkerHeirs$State" "strikes" "I", Cond.methodLink RX5 116 yX0_begin, Cond.instanceMethod yX0_begin]
def wsX5_winner_r3 : List Cond := [Cond.selects RX0 yX0_begin yX0_begin, Cond.initialized RX0, Cond.code yX0_begin cX0_begin 2 none, Cond.fieldLink RX0 7 "ConkerHeirs$Draws" "x" "I", Cond.methodLink RX5 120 yX4_fight, Cond.instanceMethod yX4_fight, Cond.selects RX4 yX4_fight yX4_fight, Cond.code yX4_fight cX4_fight 8 (some .int), Cond.methodLink RX4 86 Lib.Math.min.name, Cond.static Lib.Math.min.name, Cond.initialized "java/lang/Math", Cond.code Lib.Math.min.name Lib.Math.min.code 2 (some .int), Cond.methodLink RX4 103 Lib.Math.max.name, Cond.static Lib.Math.max.name, Cond.code Lib.Math.max.name Lib.Math.max.code 2 (some .int), Cond.methodLink RX4 106 yX0_swing, Cond.instanceMethod yX0_swing, Cond.selects RX0 yX0_swing yX0_swing, Cond.code yX0_swing cX0_swing 1 (some .int), Cond.methodLink RX0 14 yX0_next, Cond.instanceMethod yX0_next, Cond.selects RX0 yX0_next yX0_next, Cond.code yX0_next cX0_next 1 (some .int), Cond.constant RX0 13 (65536)]
def wsX5_winner_r4 : List Cond := [Cond.methodLink RX4 112 yX4_hit, Cond.instanceMethod yX4_hit, Cond.selects RX4 yX4_hit yX4_hit, Cond.code yX4_hit cX4_hit 6 (some .int), Cond.methodLink RX4 82 yX4_quotient, Cond.static yX4_quotient, Cond.code yX4_quotient cX4_quotient 2 (some .int), Cond.methodLink RX4 91 yX4_settleSmashes, Cond.instanceMethod yX4_settleSmashes, Cond.selects RX4 yX4_settleSmashes yX4_settleSmashes, Cond.code yX4_settleSmashes cX4_settleSmashes 5 none, Cond.methodLink RX4 115 yX4_crush, Cond.instanceMethod yX4_crush, Cond.selects RX4 yX4_crush yX4_crush, Cond.code yX4_crush cX4_crush 3 (some .int), Cond.methodLink RX4 79 yX4_takeVictoriesOfSmashed, Cond.instanceMethod yX4_takeVictoriesOfSmashed, Cond.selects RX4 yX4_takeVictoriesOfSmashed yX4_takeVictoriesOfSmashed, Cond.code yX4_takeVictoriesOfSmashed cX4_takeVictoriesOfSmashed 3 (some .int), Cond.methodLink RX4 118 yX4_inherit, Cond.instanceMethod yX4_inherit, Cond.selects RX4 yX4_inherit yX4_inherit, Cond.code yX4_inherit cX4_inherit 3 none, Cond.methodLink RX4 95 yX4_fallIfWorn]
def wsX5_winner_r5 : List Cond := [Cond.instanceMethod yX4_fallIfWorn, Cond.selects RX4 yX4_fallIfWorn yX4_fallIfWorn, Cond.code yX4_fallIfWorn cX4_fallIfWorn 2 none, Cond.methodLink RX4 99 yX4_outcome, Cond.instanceMethod yX4_outcome, Cond.selects RX4 yX4_outcome yX4_outcome, Cond.code yX4_outcome cX4_outcome 4 (some .int)]
def wsX5_winner : List Cond := .code yX5_winner cX5_winner 7 (some .int) :: ((wsX5_winner_r1 ++ (wsX5_winner_r2 ++ (wsX5_winner_r3 ++ (wsX5_winner_r4 ++ wsX5_winner_r5)))) ++ wsX50 ++ wsX40 ++ wsX00)
def wsX5_share : List Cond := .code yX5_share cX5_share 3 (some .float) :: ([.fieldLink RX5 10 "ConkerHeirs" "now" "LConkerHeirs$State;", .methodLink RX5 191 yX4_victoriesOf, .instanceMethod yX4_victoriesOf, .selects RX4 yX4_victoriesOf yX4_victoriesOf, .initialized RX4, .code yX4_victoriesOf cX4_victoriesOf 4 (some .int), .fieldLink RX4 42 "ConkerHeirs$State" "conkers" "I", .fieldLink RX4 30 "ConkerHeirs$State" "victories" "[I", .methodLink RX4 121 yX4_isOf, .instanceMethod yX4_isOf, .selects RX4 yX4_isOf yX4_isOf, .code yX4_isOf cX4_isOf 3 (some .boolean), .fieldLink RX4 18 "ConkerHeirs$State" "owner" "[I", .methodLink RX5 54 yX5_isPlayer, .static yX5_isPlayer, .initialized RX5, .code yX5_isPlayer cX5_isPlayer 1 (some .boolean), .methodLink RX5 58 yX5_isWithin, .static yX5_isWithin, .code yX5_isWithin cX5_isWithin 3 (some .boolean)] ++ wsX50 ++ wsX40)
def wsX6_init : List Cond := .code yX6_init cX6_init 2 none :: ([.methodLink RX6 1 objectInit, .instanceMethod objectInit, .code objectInit ⟨#[0xb1]⟩ 1 none, .arrayClass .int, .fieldLink RX6 7 "ConkerHeirsModel" "s" "[I", .fieldLink RX6 13 "ConkerHeirsModel" "text" "[I", .fieldLink RX6 16 "ConkerHeirsModel" "row" "[I", .fieldLink RX6 19 "ConkerHeirsModel" "sent" "[I"] ++ wsX60)
def wsX6_in : List Cond := .code yX6_in cX6_in 3 (some .boolean) :: ([])
def wsX6_flag : List Cond := .code yX6_flag cX6_flag 1 (some .int) :: ([])
def wsX6_less : List Cond := .code yX6_less cX6_less 2 (some .int) :: ([])
def wsX6_copies : List Cond := .code yX6_copies cX6_copies 4 none :: ([.fieldLink RX6 7 "ConkerHeirsModel" "s" "[I"] ++ wsX60)
def wsX6_records : List Cond := .code yX6_records cX6_records 2 none :: ([.fieldLink RX6 22 "ConkerHeirsModel" "states" "I", .methodLink RX6 26 yX6_copies, .instanceMethod yX6_copies, .selects RX6 yX6_copies yX6_copies, .initialized RX6, .code yX6_copies cX6_copies 4 none, .fieldLink RX6 7 "ConkerHeirsModel" "s" "[I"] ++ wsX60)
def wsX6_at : List Cond := .code yX6_at cX6_at 2 (some .int) :: ([])
def wsX6_smashes : List Cond := .code yX6_smashes cX6_smashes 3 none :: ([.fieldLink RX6 7 "ConkerHeirsModel" "s" "[I"] ++ wsX60)
def wsX6_strikes : List Cond := .code yX6_strikes cX6_strikes 11 (some .int) :: ([.fieldLink RX6 7 "ConkerHeirsModel" "s" "[I", .methodLink RX6 30 yX6_at, .static yX6_at, .initialized RX6, .code yX6_at cX6_at 2 (some .int), .methodLink RX6 34 yX6_less, .static yX6_less, .code yX6_less cX6_less 2 (some .int), .methodLink RX6 37 yX6_smashes, .instanceMethod yX6_smashes, .selects RX6 yX6_smashes yX6_smashes, .code yX6_smashes cX6_smashes 3 none, .methodLink RX6 40 yX6_flag, .static yX6_flag, .code yX6_flag cX6_flag 1 (some .int)] ++ wsX60)
def wsX6_goesOn : List Cond := .code yX6_goesOn cX6_goesOn 1 none :: ([.fieldLink RX6 44 "ConkerHeirsModel" "x" "I", .constant RX6 47 (65536)] ++ wsX60)
def wsX6_fights_r1 : List Cond := [Cond.fieldLink RX6 7 "ConkerHeirsModel" "s" "[I", Cond.fieldLink RX6 44 "ConkerHeirsModel" "x" "I", Cond.methodLink RX6 34 yX6_less, Cond.static yX6_less, Cond.initialized RX6, Cond.code yX6_less cX6_less 2 (some .int), Cond.methodLink RX6 30 yX6_at, Cond.static yX6_at, Cond.code yX6_at cX6_at 2 (some .int), Cond.methodLink RX6 48 yX6_goesOn, Cond.instanceMethod yX6_goesOn, Cond.selects RX6 yX6_goesOn yX6_goesOn, Cond.code yX6_goesOn cX6_goesOn 1 none, Cond.constant RX6 47 (65536), Cond.methodLink RX6 51 yX6_strikes, Cond.instanceMethod yX6_strikes, Cond.selects RX6 yX6_strikes yX6_strikes, Cond.code yX6_strikes cX6_strikes 11 (some .int), Cond.methodLink RX6 37 yX6_smashes, Cond.instanceMethod yX6_smashes, Cond.selects RX6 yX6_smashes yX6_smashes, Cond.code yX6_smashes cX6_smashes 3 none, Cond.methodLink RX6 40 yX6_flag, Cond.static yX6_flag]
def wsX6_fights_r2 : List Cond := [Cond.code yX6_flag cX6_flag 1 (some .int)]
def wsX6_fights : List Cond := .code yX6_fights cX6_fights 9 (some .int) :: ((wsX6_fights_r1 ++ wsX6_fights_r2) ++ wsX60)
def wsX6_isConker : List Cond := .code yX6_isConker cX6_isConker 2 (some .boolean) :: ([.fieldLink RX6 7 "ConkerHeirsModel" "s" "[I", .methodLink RX6 55 yX6_in, .static yX6_in, .initialized RX6, .code yX6_in cX6_in 3 (some .boolean)] ++ wsX60)
def wsX6_isPlayer : List Cond := .code yX6_isPlayer cX6_isPlayer 1 (some .boolean) :: ([.methodLink RX6 55 yX6_in, .static yX6_in, .initialized RX6, .code yX6_in cX6_in 3 (some .boolean)])
def wsX6_pairError : List Cond := .code yX6_pairError cX6_pairError 5 (some .int) :: ([.fieldLink RX6 7 "ConkerHeirsModel" "s" "[I", .methodLink RX6 59 yX6_isConker, .instanceMethod yX6_isConker, .selects RX6 yX6_isConker yX6_isConker, .initialized RX6, .code yX6_isConker cX6_isConker 2 (some .boolean), .methodLink RX6 55 yX6_in, .static yX6_in, .code yX6_in cX6_in 3 (some .boolean), .methodLink RX6 30 yX6_at, .static yX6_at, .code yX6_at cX6_at 2 (some .int)] ++ wsX60)
def wsX6_strikeError : List Cond := .code yX6_strikeError cX6_strikeError 4 (some .int) :: ([.methodLink RX6 55 yX6_in, .static yX6_in, .initialized RX6, .code yX6_in cX6_in 3 (some .boolean), .methodLink RX6 63 yX6_pairError, .instanceMethod yX6_pairError, .selects RX6 yX6_pairError yX6_pairError, .code yX6_pairError cX6_pairError 5 (some .int), .fieldLink RX6 7 "ConkerHeirsModel" "s" "[I", .methodLink RX6 59 yX6_isConker, .instanceMethod yX6_isConker, .selects RX6 yX6_isConker yX6_isConker, .code yX6_isConker cX6_isConker 2 (some .boolean), .methodLink RX6 30 yX6_at, .static yX6_at, .code yX6_at cX6_at 2 (some .int)] ++ wsX60)
def wsX6_spare : List Cond := .code yX6_spare cX6_spare 2 (some .int) :: ([.fieldLink RX6 7 "ConkerHeirsModel" "s" "[I", .methodLink RX6 30 yX6_at, .static yX6_at, .initialized RX6, .code yX6_at cX6_at 2 (some .int)] ++ wsX60)
def wsX6_mendError : List Cond := .code yX6_mendError cX6_mendError 2 (some .int) :: ([.fieldLink RX6 7 "ConkerHeirsModel" "s" "[I", .methodLink RX6 59 yX6_isConker, .instanceMethod yX6_isConker, .selects RX6 yX6_isConker yX6_isConker, .initialized RX6, .code yX6_isConker cX6_isConker 2 (some .boolean), .methodLink RX6 55 yX6_in, .static yX6_in, .code yX6_in cX6_in 3 (some .boolean), .methodLink RX6 30 yX6_at, .static yX6_at, .code yX6_at cX6_at 2 (some .int), .methodLink RX6 67 yX6_spare, .instanceMethod yX6_spare, .selects RX6 yX6_spare yX6_spare, .code yX6_spare cX6_spare 2 (some .int)] ++ wsX60)
def wsX6_stampError : List Cond := .code yX6_stampError cX6_stampError 2 (some .int) :: ([.fieldLink RX6 7 "ConkerHeirsModel" "s" "[I", .methodLink RX6 59 yX6_isConker, .instanceMethod yX6_isConker, .selects RX6 yX6_isConker yX6_isConker, .initialized RX6, .code yX6_isConker cX6_isConker 2 (some .boolean), .methodLink RX6 55 yX6_in, .static yX6_in, .code yX6_in cX6_in 3 (some .boolean), .methodLink RX6 30 yX6_at, .static yX6_at, .code yX6_at cX6_at 2 (some .int)] ++ wsX60)
def wsX6_mends : List Cond := .code yX6_mends cX6_mends 2 (some .int) :: ([.fieldLink RX6 7 "ConkerHeirsModel" "s" "[I", .methodLink RX6 30 yX6_at, .static yX6_at, .initialized RX6, .code yX6_at cX6_at 2 (some .int), .methodLink RX6 67 yX6_spare, .instanceMethod yX6_spare, .selects RX6 yX6_spare yX6_spare, .code yX6_spare cX6_spare 2 (some .int)] ++ wsX60)
def wsX6_stamps : List Cond := .code yX6_stamps cX6_stamps 3 (some .int) :: ([.fieldLink RX6 7 "ConkerHeirsModel" "s" "[I", .methodLink RX6 30 yX6_at, .static yX6_at, .initialized RX6, .code yX6_at cX6_at 2 (some .int), .methodLink RX6 37 yX6_smashes, .instanceMethod yX6_smashes, .selects RX6 yX6_smashes yX6_smashes, .code yX6_smashes cX6_smashes 3 none] ++ wsX60)
def wsX6_thread : List Cond := .code yX6_thread cX6_thread 5 (some .int) :: ([.fieldLink RX6 7 "ConkerHeirsModel" "s" "[I", .methodLink RX6 71 yX6_isPlayer, .static yX6_isPlayer, .initialized RX6, .code yX6_isPlayer cX6_isPlayer 1 (some .boolean), .methodLink RX6 55 yX6_in, .static yX6_in, .code yX6_in cX6_in 3 (some .boolean), .methodLink RX6 74 yX6_records, .instanceMethod yX6_records, .selects RX6 yX6_records yX6_records, .code yX6_records cX6_records 2 none, .fieldLink RX6 22 "ConkerHeirsModel" "states" "I", .methodLink RX6 26 yX6_copies, .instanceMethod yX6_copies, .selects RX6 yX6_copies yX6_copies, .code yX6_copies cX6_copies 4 none, .methodLink RX6 30 yX6_at, .static yX6_at, .code yX6_at cX6_at 2 (some .int)] ++ wsX60)
def wsX6_give : List Cond := .code yX6_give cX6_give 3 (some .int) :: ([.fieldLink RX6 7 "ConkerHeirsModel" "s" "[I", .methodLink RX6 71 yX6_isPlayer, .static yX6_isPlayer, .initialized RX6, .code yX6_isPlayer cX6_isPlayer 1 (some .boolean), .methodLink RX6 55 yX6_in, .static yX6_in, .code yX6_in cX6_in 3 (some .boolean), .methodLink RX6 74 yX6_records, .instanceMethod yX6_records, .selects RX6 yX6_records yX6_records, .code yX6_records cX6_records 2 none, .fieldLink RX6 22 "ConkerHeirsModel" "states" "I", .methodLink RX6 26 yX6_copies, .instanceMethod yX6_copies, .selects RX6 yX6_copies yX6_copies, .code yX6_copies cX6_copies 4 none] ++ wsX60)
def wsX6_strike_r1 : List Cond := [Cond.methodLink RX6 77 yX6_strikeError, Cond.instanceMethod yX6_strikeError, Cond.selects RX6 yX6_strikeError yX6_strikeError, Cond.initialized RX6, Cond.code yX6_strikeError cX6_strikeError 4 (some .int), Cond.methodLink RX6 55 yX6_in, Cond.static yX6_in, Cond.code yX6_in cX6_in 3 (some .boolean), Cond.methodLink RX6 63 yX6_pairError, Cond.instanceMethod yX6_pairError, Cond.selects RX6 yX6_pairError yX6_pairError, Cond.code yX6_pairError cX6_pairError 5 (some .int), Cond.fieldLink RX6 7 "ConkerHeirsModel" "s" "[I", Cond.methodLink RX6 59 yX6_isConker, Cond.instanceMethod yX6_isConker, Cond.selects RX6 yX6_isConker yX6_isConker, Cond.code yX6_isConker cX6_isConker 2 (some .boolean), Cond.methodLink RX6 30 yX6_at, Cond.static yX6_at, Cond.code yX6_at cX6_at 2 (some .int), Cond.methodLink RX6 74 yX6_records, Cond.instanceMethod yX6_records, Cond.selects RX6 yX6_records yX6_records, Cond.code yX6_records cX6_records 2 none]
def wsX6_strike_r2 : List Cond := [Cond.fieldLink RX6 22 "ConkerHeirsModel" "states" "I", Cond.methodLink RX6 26 yX6_copies, Cond.instanceMethod yX6_copies, Cond.selects RX6 yX6_copies yX6_copies, Cond.code yX6_copies cX6_copies 4 none, Cond.methodLink RX6 51 yX6_strikes, Cond.instanceMethod yX6_strikes, Cond.selects RX6 yX6_strikes yX6_strikes, Cond.code yX6_strikes cX6_strikes 11 (some .int), Cond.methodLink RX6 34 yX6_less, Cond.static yX6_less, Cond.code yX6_less cX6_less 2 (some .int), Cond.methodLink RX6 37 yX6_smashes, Cond.instanceMethod yX6_smashes, Cond.selects RX6 yX6_smashes yX6_smashes, Cond.code yX6_smashes cX6_smashes 3 none, Cond.methodLink RX6 40 yX6_flag, Cond.static yX6_flag, Cond.code yX6_flag cX6_flag 1 (some .int)]
def wsX6_strike : List Cond := .code yX6_strike cX6_strike 5 (some .int) :: ((wsX6_strike_r1 ++ wsX6_strike_r2) ++ wsX60)
def wsX6_mend_r1 : List Cond := [Cond.methodLink RX6 81 yX6_mendError, Cond.instanceMethod yX6_mendError, Cond.selects RX6 yX6_mendError yX6_mendError, Cond.initialized RX6, Cond.code yX6_mendError cX6_mendError 2 (some .int), Cond.fieldLink RX6 7 "ConkerHeirsModel" "s" "[I", Cond.methodLink RX6 59 yX6_isConker, Cond.instanceMethod yX6_isConker, Cond.selects RX6 yX6_isConker yX6_isConker, Cond.code yX6_isConker cX6_isConker 2 (some .boolean), Cond.methodLink RX6 55 yX6_in, Cond.static yX6_in, Cond.code yX6_in cX6_in 3 (some .boolean), Cond.methodLink RX6 30 yX6_at, Cond.static yX6_at, Cond.code yX6_at cX6_at 2 (some .int), Cond.methodLink RX6 67 yX6_spare, Cond.instanceMethod yX6_spare, Cond.selects RX6 yX6_spare yX6_spare, Cond.code yX6_spare cX6_spare 2 (some .int), Cond.methodLink RX6 74 yX6_records, Cond.instanceMethod yX6_records, Cond.selects RX6 yX6_records yX6_records, Cond.code yX6_records cX6_records 2 none]
def wsX6_mend_r2 : List Cond := [Cond.fieldLink RX6 22 "ConkerHeirsModel" "states" "I", Cond.methodLink RX6 26 yX6_copies, Cond.instanceMethod yX6_copies, Cond.selects RX6 yX6_copies yX6_copies, Cond.code yX6_copies cX6_copies 4 none, Cond.methodLink RX6 84 yX6_mends, Cond.instanceMethod yX6_mends, Cond.selects RX6 yX6_mends yX6_mends, Cond.code yX6_mends cX6_mends 2 (some .int)]
def wsX6_mend : List Cond := .code yX6_mend cX6_mend 3 (some .int) :: ((wsX6_mend_r1 ++ wsX6_mend_r2) ++ wsX60)
def wsX6_stamp_r1 : List Cond := [Cond.methodLink RX6 87 yX6_stampError, Cond.instanceMethod yX6_stampError, Cond.selects RX6 yX6_stampError yX6_stampError, Cond.initialized RX6, Cond.code yX6_stampError cX6_stampError 2 (some .int), Cond.fieldLink RX6 7 "ConkerHeirsModel" "s" "[I", Cond.methodLink RX6 59 yX6_isConker, Cond.instanceMethod yX6_isConker, Cond.selects RX6 yX6_isConker yX6_isConker, Cond.code yX6_isConker cX6_isConker 2 (some .boolean), Cond.methodLink RX6 55 yX6_in, Cond.static yX6_in, Cond.code yX6_in cX6_in 3 (some .boolean), Cond.methodLink RX6 30 yX6_at, Cond.static yX6_at, Cond.code yX6_at cX6_at 2 (some .int), Cond.methodLink RX6 74 yX6_records, Cond.instanceMethod yX6_records, Cond.selects RX6 yX6_records yX6_records, Cond.code yX6_records cX6_records 2 none, Cond.fieldLink RX6 22 "ConkerHeirsModel" "states" "I", Cond.methodLink RX6 26 yX6_copies, Cond.instanceMethod yX6_copies, Cond.selects RX6 yX6_copies yX6_copies]
def wsX6_stamp_r2 : List Cond := [Cond.code yX6_copies cX6_copies 4 none, Cond.methodLink RX6 90 yX6_stamps, Cond.instanceMethod yX6_stamps, Cond.selects RX6 yX6_stamps yX6_stamps, Cond.code yX6_stamps cX6_stamps 3 (some .int), Cond.methodLink RX6 37 yX6_smashes, Cond.instanceMethod yX6_smashes, Cond.selects RX6 yX6_smashes yX6_smashes, Cond.code yX6_smashes cX6_smashes 3 none]
def wsX6_stamp : List Cond := .code yX6_stamp cX6_stamp 3 (some .int) :: ((wsX6_stamp_r1 ++ wsX6_stamp_r2) ++ wsX60)
def wsX6_boast : List Cond := .code yX6_boast cX6_boast 5 (some .int) :: ([.fieldLink RX6 7 "ConkerHeirsModel" "s" "[I", .methodLink RX6 59 yX6_isConker, .instanceMethod yX6_isConker, .selects RX6 yX6_isConker yX6_isConker, .initialized RX6, .code yX6_isConker cX6_isConker 2 (some .boolean), .methodLink RX6 55 yX6_in, .static yX6_in, .code yX6_in cX6_in 3 (some .boolean), .methodLink RX6 30 yX6_at, .static yX6_at, .code yX6_at cX6_at 2 (some .int), .methodLink RX6 74 yX6_records, .instanceMethod yX6_records, .selects RX6 yX6_records yX6_records, .code yX6_records cX6_records 2 none, .fieldLink RX6 22 "ConkerHeirsModel" "states" "I", .methodLink RX6 26 yX6_copies, .instanceMethod yX6_copies, .selects RX6 yX6_copies yX6_copies, .code yX6_copies cX6_copies 4 none] ++ wsX60)
def wsX6_doubt : List Cond := .code yX6_doubt cX6_doubt 5 (some .int) :: ([.fieldLink RX6 7 "ConkerHeirsModel" "s" "[I", .methodLink RX6 71 yX6_isPlayer, .static yX6_isPlayer, .initialized RX6, .code yX6_isPlayer cX6_isPlayer 1 (some .boolean), .methodLink RX6 55 yX6_in, .static yX6_in, .code yX6_in cX6_in 3 (some .boolean), .methodLink RX6 59 yX6_isConker, .instanceMethod yX6_isConker, .selects RX6 yX6_isConker yX6_isConker, .code yX6_isConker cX6_isConker 2 (some .boolean), .methodLink RX6 30 yX6_at, .static yX6_at, .code yX6_at cX6_at 2 (some .int), .methodLink RX6 74 yX6_records, .instanceMethod yX6_records, .selects RX6 yX6_records yX6_records, .code yX6_records cX6_records 2 none, .fieldLink RX6 22 "ConkerHeirsModel" "states" "I", .methodLink RX6 26 yX6_copies, .instanceMethod yX6_copies, .selects RX6 yX6_copies yX6_copies, .code yX6_copies cX6_copies 4 none] ++ wsX60)
def wsX6_boutError : List Cond := .code yX6_boutError cX6_boutError 4 (some .int) :: ([.constant RX6 93 (65535), .methodLink RX6 55 yX6_in, .static yX6_in, .initialized RX6, .code yX6_in cX6_in 3 (some .boolean), .methodLink RX6 63 yX6_pairError, .instanceMethod yX6_pairError, .selects RX6 yX6_pairError yX6_pairError, .code yX6_pairError cX6_pairError 5 (some .int), .fieldLink RX6 7 "ConkerHeirsModel" "s" "[I", .methodLink RX6 59 yX6_isConker, .instanceMethod yX6_isConker, .selects RX6 yX6_isConker yX6_isConker, .code yX6_isConker cX6_isConker 2 (some .boolean), .methodLink RX6 30 yX6_at, .static yX6_at, .code yX6_at cX6_at 2 (some .int)] ++ wsX60)
def wsX6_bout_r1 : List Cond := [Cond.fieldLink RX6 44 "ConkerHeirsModel" "x" "I", Cond.methodLink RX6 94 yX6_boutError, Cond.instanceMethod yX6_boutError, Cond.selects RX6 yX6_boutError yX6_boutError, Cond.initialized RX6, Cond.code yX6_boutError cX6_boutError 4 (some .int), Cond.constant RX6 93 (65535), Cond.methodLink RX6 55 yX6_in, Cond.static yX6_in, Cond.code yX6_in cX6_in 3 (some .boolean), Cond.methodLink RX6 63 yX6_pairError, Cond.instanceMethod yX6_pairError, Cond.selects RX6 yX6_pairError yX6_pairError, Cond.code yX6_pairError cX6_pairError 5 (some .int), Cond.fieldLink RX6 7 "ConkerHeirsModel" "s" "[I", Cond.methodLink RX6 59 yX6_isConker, Cond.instanceMethod yX6_isConker, Cond.selects RX6 yX6_isConker yX6_isConker, Cond.code yX6_isConker cX6_isConker 2 (some .boolean), Cond.methodLink RX6 30 yX6_at, Cond.static yX6_at, Cond.code yX6_at cX6_at 2 (some .int), Cond.methodLink RX6 74 yX6_records, Cond.instanceMethod yX6_records]
def wsX6_bout_r2 : List Cond := [Cond.selects RX6 yX6_records yX6_records, Cond.code yX6_records cX6_records 2 none, Cond.fieldLink RX6 22 "ConkerHeirsModel" "states" "I", Cond.methodLink RX6 26 yX6_copies, Cond.instanceMethod yX6_copies, Cond.selects RX6 yX6_copies yX6_copies, Cond.code yX6_copies cX6_copies 4 none, Cond.methodLink RX6 97 yX6_fights, Cond.instanceMethod yX6_fights, Cond.selects RX6 yX6_fights yX6_fights, Cond.code yX6_fights cX6_fights 9 (some .int), Cond.methodLink RX6 34 yX6_less, Cond.static yX6_less, Cond.code yX6_less cX6_less 2 (some .int), Cond.methodLink RX6 48 yX6_goesOn, Cond.instanceMethod yX6_goesOn, Cond.selects RX6 yX6_goesOn yX6_goesOn, Cond.code yX6_goesOn cX6_goesOn 1 none, Cond.constant RX6 47 (65536), Cond.methodLink RX6 51 yX6_strikes, Cond.instanceMethod yX6_strikes, Cond.selects RX6 yX6_strikes yX6_strikes, Cond.code yX6_strikes cX6_strikes 11 (some .int), Cond.methodLink RX6 37 yX6_smashes]
def wsX6_bout_r3 : List Cond := [Cond.instanceMethod yX6_smashes, Cond.selects RX6 yX6_smashes yX6_smashes, Cond.code yX6_smashes cX6_smashes 3 none, Cond.methodLink RX6 40 yX6_flag, Cond.static yX6_flag, Cond.code yX6_flag cX6_flag 1 (some .int)]
def wsX6_bout : List Cond := .code yX6_bout cX6_bout 5 (some .int) :: ((wsX6_bout_r1 ++ (wsX6_bout_r2 ++ wsX6_bout_r3)) ++ wsX60)
def wsX6_best : List Cond := .code yX6_best cX6_best 6 (some .int) :: ([.fieldLink RX6 7 "ConkerHeirsModel" "s" "[I", .methodLink RX6 30 yX6_at, .static yX6_at, .initialized RX6, .code yX6_at cX6_at 2 (some .int)] ++ wsX60)
def wsX6_lines : List Cond := .code yX6_lines cX6_lines 4 (some .int) :: ([.fieldLink RX6 19 "ConkerHeirsModel" "sent" "[I", .fieldLink RX6 7 "ConkerHeirsModel" "s" "[I", .fieldLink RX6 16 "ConkerHeirsModel" "row" "[I", .methodLink RX6 100 yX6_best, .instanceMethod yX6_best, .selects RX6 yX6_best yX6_best, .initialized RX6, .code yX6_best cX6_best 6 (some .int), .methodLink RX6 30 yX6_at, .static yX6_at, .code yX6_at cX6_at 2 (some .int)] ++ wsX60)
def wsX6_round_r1 : List Cond := [Cond.constant RX6 93 (65535), Cond.fieldLink RX6 44 "ConkerHeirsModel" "x" "I", Cond.fieldLink RX6 19 "ConkerHeirsModel" "sent" "[I", Cond.fieldLink RX6 16 "ConkerHeirsModel" "row" "[I", Cond.methodLink RX6 55 yX6_in, Cond.static yX6_in, Cond.initialized RX6, Cond.code yX6_in cX6_in 3 (some .boolean), Cond.methodLink RX6 74 yX6_records, Cond.instanceMethod yX6_records, Cond.selects RX6 yX6_records yX6_records, Cond.code yX6_records cX6_records 2 none, Cond.fieldLink RX6 22 "ConkerHeirsModel" "states" "I", Cond.methodLink RX6 26 yX6_copies, Cond.instanceMethod yX6_copies, Cond.selects RX6 yX6_copies yX6_copies, Cond.code yX6_copies cX6_copies 4 none, Cond.fieldLink RX6 7 "ConkerHeirsModel" "s" "[I", Cond.methodLink RX6 103 yX6_lines, Cond.instanceMethod yX6_lines, Cond.selects RX6 yX6_lines yX6_lines, Cond.code yX6_lines cX6_lines 4 (some .int), Cond.methodLink RX6 100 yX6_best, Cond.instanceMethod yX6_best]
def wsX6_round_r2 : List Cond := [Cond.selects RX6 yX6_best yX6_best, Cond.code yX6_best cX6_best 6 (some .int), Cond.methodLink RX6 30 yX6_at, Cond.static yX6_at, Cond.code yX6_at cX6_at 2 (some .int), Cond.methodLink RX6 48 yX6_goesOn, Cond.instanceMethod yX6_goesOn, Cond.selects RX6 yX6_goesOn yX6_goesOn, Cond.code yX6_goesOn cX6_goesOn 1 none, Cond.constant RX6 47 (65536), Cond.methodLink RX6 97 yX6_fights, Cond.instanceMethod yX6_fights, Cond.selects RX6 yX6_fights yX6_fights, Cond.code yX6_fights cX6_fights 9 (some .int), Cond.methodLink RX6 34 yX6_less, Cond.static yX6_less, Cond.code yX6_less cX6_less 2 (some .int), Cond.methodLink RX6 51 yX6_strikes, Cond.instanceMethod yX6_strikes, Cond.selects RX6 yX6_strikes yX6_strikes, Cond.code yX6_strikes cX6_strikes 11 (some .int), Cond.methodLink RX6 37 yX6_smashes, Cond.instanceMethod yX6_smashes, Cond.selects RX6 yX6_smashes yX6_smashes]
def wsX6_round_r3 : List Cond := [Cond.code yX6_smashes cX6_smashes 3 none, Cond.methodLink RX6 40 yX6_flag, Cond.static yX6_flag, Cond.code yX6_flag cX6_flag 1 (some .int)]
def wsX6_round : List Cond := .code yX6_round cX6_round 9 (some .int) :: ((wsX6_round_r1 ++ (wsX6_round_r2 ++ wsX6_round_r3)) ++ wsX60)
def wsX6_append : List Cond := .code yX6_append cX6_append 2 (some .int) :: ([.fieldLink RX6 107 "ConkerHeirsModel" "typed" "I", .fieldLink RX6 13 "ConkerHeirsModel" "text" "[I", .methodLink RX6 55 yX6_in, .static yX6_in, .initialized RX6, .code yX6_in cX6_in 3 (some .boolean)] ++ wsX60)
def wsX6_clearText : List Cond := .code yX6_clearText cX6_clearText 2 (some .int) :: ([.fieldLink RX6 107 "ConkerHeirsModel" "typed" "I"] ++ wsX60)
def wsX6_isHere : List Cond := .code yX6_isHere cX6_isHere 3 (some .boolean) :: ([.fieldLink RX6 110 "ConkerHeirsModel" "spot" "I", .fieldLink RX6 107 "ConkerHeirsModel" "typed" "I", .fieldLink RX6 13 "ConkerHeirsModel" "text" "[I", .methodLink RX6 55 yX6_in, .static yX6_in, .initialized RX6, .code yX6_in cX6_in 3 (some .boolean)] ++ wsX60)
def wsX6_takes : List Cond := .code yX6_takes cX6_takes 3 (some .boolean) :: ([.fieldLink RX6 110 "ConkerHeirsModel" "spot" "I", .methodLink RX6 113 yX6_isHere, .instanceMethod yX6_isHere, .selects RX6 yX6_isHere yX6_isHere, .initialized RX6, .code yX6_isHere cX6_isHere 3 (some .boolean), .fieldLink RX6 107 "ConkerHeirsModel" "typed" "I", .fieldLink RX6 13 "ConkerHeirsModel" "text" "[I", .methodLink RX6 55 yX6_in, .static yX6_in, .code yX6_in cX6_in 3 (some .boolean), .methodLink RX6 40 yX6_flag, .static yX6_flag, .code yX6_flag cX6_flag 1 (some .int)] ++ wsX60)
def wsX6_number : List Cond := .code yX6_number cX6_number 2 (some .int) :: ([.fieldLink RX6 13 "ConkerHeirsModel" "text" "[I", .fieldLink RX6 110 "ConkerHeirsModel" "spot" "I", .methodLink RX6 113 yX6_isHere, .instanceMethod yX6_isHere, .selects RX6 yX6_isHere yX6_isHere, .initialized RX6, .code yX6_isHere cX6_isHere 3 (some .boolean), .fieldLink RX6 107 "ConkerHeirsModel" "typed" "I", .methodLink RX6 55 yX6_in, .static yX6_in, .code yX6_in cX6_in 3 (some .boolean), .methodLink RX6 40 yX6_flag, .static yX6_flag, .code yX6_flag cX6_flag 1 (some .int)] ++ wsX60)
def wsX6_readsOrder_r1 : List Cond := [Cond.fieldLink RX6 120 "ConkerHeirsModel" "letter" "I", Cond.fieldLink RX6 126 "ConkerHeirsModel" "one" "I", Cond.fieldLink RX6 129 "ConkerHeirsModel" "two" "I", Cond.fieldLink RX6 13 "ConkerHeirsModel" "text" "[I", Cond.fieldLink RX6 110 "ConkerHeirsModel" "spot" "I", Cond.fieldLink RX6 132 "ConkerHeirsModel" "three" "I", Cond.methodLink RX6 117 yX6_takes, Cond.instanceMethod yX6_takes, Cond.selects RX6 yX6_takes yX6_takes, Cond.initialized RX6, Cond.code yX6_takes cX6_takes 3 (some .boolean), Cond.methodLink RX6 113 yX6_isHere, Cond.instanceMethod yX6_isHere, Cond.selects RX6 yX6_isHere yX6_isHere, Cond.code yX6_isHere cX6_isHere 3 (some .boolean), Cond.fieldLink RX6 107 "ConkerHeirsModel" "typed" "I", Cond.methodLink RX6 55 yX6_in, Cond.static yX6_in, Cond.code yX6_in cX6_in 3 (some .boolean), Cond.methodLink RX6 40 yX6_flag, Cond.static yX6_flag, Cond.code yX6_flag cX6_flag 1 (some .int), Cond.methodLink RX6 123 yX6_number, Cond.instanceMethod yX6_number]
def wsX6_readsOrder_r2 : List Cond := [Cond.selects RX6 yX6_number yX6_number, Cond.code yX6_number cX6_number 2 (some .int)]
def wsX6_readsOrder : List Cond := .code yX6_readsOrder cX6_readsOrder 1 (some .boolean) :: ((wsX6_readsOrder_r1 ++ wsX6_readsOrder_r2) ++ wsX60)
def wsX6_fault_r1 : List Cond := [Cond.fieldLink RX6 110 "ConkerHeirsModel" "spot" "I", Cond.fieldLink RX6 107 "ConkerHeirsModel" "typed" "I", Cond.methodLink RX6 135 yX6_readsOrder, Cond.instanceMethod yX6_readsOrder, Cond.selects RX6 yX6_readsOrder yX6_readsOrder, Cond.initialized RX6, Cond.code yX6_readsOrder cX6_readsOrder 1 (some .boolean), Cond.fieldLink RX6 120 "ConkerHeirsModel" "letter" "I", Cond.fieldLink RX6 126 "ConkerHeirsModel" "one" "I", Cond.fieldLink RX6 129 "ConkerHeirsModel" "two" "I", Cond.fieldLink RX6 13 "ConkerHeirsModel" "text" "[I", Cond.fieldLink RX6 132 "ConkerHeirsModel" "three" "I", Cond.methodLink RX6 117 yX6_takes, Cond.instanceMethod yX6_takes, Cond.selects RX6 yX6_takes yX6_takes, Cond.code yX6_takes cX6_takes 3 (some .boolean), Cond.methodLink RX6 113 yX6_isHere, Cond.instanceMethod yX6_isHere, Cond.selects RX6 yX6_isHere yX6_isHere, Cond.code yX6_isHere cX6_isHere 3 (some .boolean), Cond.methodLink RX6 55 yX6_in, Cond.static yX6_in, Cond.code yX6_in cX6_in 3 (some .boolean), Cond.methodLink RX6 40 yX6_flag]
def wsX6_fault_r2 : List Cond := [Cond.static yX6_flag, Cond.code yX6_flag cX6_flag 1 (some .int), Cond.methodLink RX6 123 yX6_number, Cond.instanceMethod yX6_number, Cond.selects RX6 yX6_number yX6_number, Cond.code yX6_number cX6_number 2 (some .int)]
def wsX6_fault : List Cond := .code yX6_fault cX6_fault 2 (some .int) :: ((wsX6_fault_r1 ++ wsX6_fault_r2) ++ wsX60)
def wsX6_orderError_r1 : List Cond := [Cond.fieldLink RX6 120 "ConkerHeirsModel" "letter" "I", Cond.fieldLink RX6 126 "ConkerHeirsModel" "one" "I", Cond.fieldLink RX6 129 "ConkerHeirsModel" "two" "I", Cond.fieldLink RX6 132 "ConkerHeirsModel" "three" "I", Cond.methodLink RX6 81 yX6_mendError, Cond.instanceMethod yX6_mendError, Cond.selects RX6 yX6_mendError yX6_mendError, Cond.initialized RX6, Cond.code yX6_mendError cX6_mendError 2 (some .int), Cond.fieldLink RX6 7 "ConkerHeirsModel" "s" "[I", Cond.methodLink RX6 59 yX6_isConker, Cond.instanceMethod yX6_isConker, Cond.selects RX6 yX6_isConker yX6_isConker, Cond.code yX6_isConker cX6_isConker 2 (some .boolean), Cond.methodLink RX6 55 yX6_in, Cond.static yX6_in, Cond.code yX6_in cX6_in 3 (some .boolean), Cond.methodLink RX6 30 yX6_at, Cond.static yX6_at, Cond.code yX6_at cX6_at 2 (some .int), Cond.methodLink RX6 67 yX6_spare, Cond.instanceMethod yX6_spare, Cond.selects RX6 yX6_spare yX6_spare, Cond.code yX6_spare cX6_spare 2 (some .int)]
def wsX6_orderError_r2 : List Cond := [Cond.methodLink RX6 87 yX6_stampError, Cond.instanceMethod yX6_stampError, Cond.selects RX6 yX6_stampError yX6_stampError, Cond.code yX6_stampError cX6_stampError 2 (some .int), Cond.methodLink RX6 77 yX6_strikeError, Cond.instanceMethod yX6_strikeError, Cond.selects RX6 yX6_strikeError yX6_strikeError, Cond.code yX6_strikeError cX6_strikeError 4 (some .int), Cond.methodLink RX6 63 yX6_pairError, Cond.instanceMethod yX6_pairError, Cond.selects RX6 yX6_pairError yX6_pairError, Cond.code yX6_pairError cX6_pairError 5 (some .int)]
def wsX6_orderError : List Cond := .code yX6_orderError cX6_orderError 1 (some .int) :: ((wsX6_orderError_r1 ++ wsX6_orderError_r2) ++ wsX60)
def wsX6_does_r1 : List Cond := [Cond.fieldLink RX6 120 "ConkerHeirsModel" "letter" "I", Cond.fieldLink RX6 126 "ConkerHeirsModel" "one" "I", Cond.fieldLink RX6 129 "ConkerHeirsModel" "two" "I", Cond.fieldLink RX6 132 "ConkerHeirsModel" "three" "I", Cond.methodLink RX6 84 yX6_mends, Cond.instanceMethod yX6_mends, Cond.selects RX6 yX6_mends yX6_mends, Cond.initialized RX6, Cond.code yX6_mends cX6_mends 2 (some .int), Cond.fieldLink RX6 7 "ConkerHeirsModel" "s" "[I", Cond.methodLink RX6 30 yX6_at, Cond.static yX6_at, Cond.code yX6_at cX6_at 2 (some .int), Cond.methodLink RX6 67 yX6_spare, Cond.instanceMethod yX6_spare, Cond.selects RX6 yX6_spare yX6_spare, Cond.code yX6_spare cX6_spare 2 (some .int), Cond.methodLink RX6 90 yX6_stamps, Cond.instanceMethod yX6_stamps, Cond.selects RX6 yX6_stamps yX6_stamps, Cond.code yX6_stamps cX6_stamps 3 (some .int), Cond.methodLink RX6 37 yX6_smashes, Cond.instanceMethod yX6_smashes, Cond.selects RX6 yX6_smashes yX6_smashes]
def wsX6_does_r2 : List Cond := [Cond.code yX6_smashes cX6_smashes 3 none, Cond.methodLink RX6 51 yX6_strikes, Cond.instanceMethod yX6_strikes, Cond.selects RX6 yX6_strikes yX6_strikes, Cond.code yX6_strikes cX6_strikes 11 (some .int), Cond.methodLink RX6 34 yX6_less, Cond.static yX6_less, Cond.code yX6_less cX6_less 2 (some .int), Cond.methodLink RX6 40 yX6_flag, Cond.static yX6_flag, Cond.code yX6_flag cX6_flag 1 (some .int)]
def wsX6_does : List Cond := .code yX6_does cX6_does 1 (some .int) :: ((wsX6_does_r1 ++ wsX6_does_r2) ++ wsX60)
def wsX6_run_r1 : List Cond := [Cond.fieldLink RX6 110 "ConkerHeirsModel" "spot" "I", Cond.methodLink RX6 139 yX6_fault, Cond.instanceMethod yX6_fault, Cond.selects RX6 yX6_fault yX6_fault, Cond.initialized RX6, Cond.code yX6_fault cX6_fault 2 (some .int), Cond.fieldLink RX6 107 "ConkerHeirsModel" "typed" "I", Cond.methodLink RX6 135 yX6_readsOrder, Cond.instanceMethod yX6_readsOrder, Cond.selects RX6 yX6_readsOrder yX6_readsOrder, Cond.code yX6_readsOrder cX6_readsOrder 1 (some .boolean), Cond.fieldLink RX6 120 "ConkerHeirsModel" "letter" "I", Cond.fieldLink RX6 126 "ConkerHeirsModel" "one" "I", Cond.fieldLink RX6 129 "ConkerHeirsModel" "two" "I", Cond.fieldLink RX6 13 "ConkerHeirsModel" "text" "[I", Cond.fieldLink RX6 132 "ConkerHeirsModel" "three" "I", Cond.methodLink RX6 117 yX6_takes, Cond.instanceMethod yX6_takes, Cond.selects RX6 yX6_takes yX6_takes, Cond.code yX6_takes cX6_takes 3 (some .boolean), Cond.methodLink RX6 113 yX6_isHere, Cond.instanceMethod yX6_isHere, Cond.selects RX6 yX6_isHere yX6_isHere, Cond.code yX6_isHere cX6_isHere 3 (some .boolean)]
def wsX6_run_r2 : List Cond := [Cond.methodLink RX6 55 yX6_in, Cond.static yX6_in, Cond.code yX6_in cX6_in 3 (some .boolean), Cond.methodLink RX6 40 yX6_flag, Cond.static yX6_flag, Cond.code yX6_flag cX6_flag 1 (some .int), Cond.methodLink RX6 123 yX6_number, Cond.instanceMethod yX6_number, Cond.selects RX6 yX6_number yX6_number, Cond.code yX6_number cX6_number 2 (some .int), Cond.methodLink RX6 74 yX6_records, Cond.instanceMethod yX6_records, Cond.selects RX6 yX6_records yX6_records, Cond.code yX6_records cX6_records 2 none, Cond.fieldLink RX6 22 "ConkerHeirsModel" "states" "I", Cond.methodLink RX6 26 yX6_copies, Cond.instanceMethod yX6_copies, Cond.selects RX6 yX6_copies yX6_copies, Cond.code yX6_copies cX6_copies 4 none, Cond.fieldLink RX6 7 "ConkerHeirsModel" "s" "[I", Cond.methodLink RX6 142 yX6_orderError, Cond.instanceMethod yX6_orderError, Cond.selects RX6 yX6_orderError yX6_orderError, Cond.code yX6_orderError cX6_orderError 1 (some .int)]
def wsX6_run_r3 : List Cond := [Cond.methodLink RX6 81 yX6_mendError, Cond.instanceMethod yX6_mendError, Cond.selects RX6 yX6_mendError yX6_mendError, Cond.code yX6_mendError cX6_mendError 2 (some .int), Cond.methodLink RX6 59 yX6_isConker, Cond.instanceMethod yX6_isConker, Cond.selects RX6 yX6_isConker yX6_isConker, Cond.code yX6_isConker cX6_isConker 2 (some .boolean), Cond.methodLink RX6 30 yX6_at, Cond.static yX6_at, Cond.code yX6_at cX6_at 2 (some .int), Cond.methodLink RX6 67 yX6_spare, Cond.instanceMethod yX6_spare, Cond.selects RX6 yX6_spare yX6_spare, Cond.code yX6_spare cX6_spare 2 (some .int), Cond.methodLink RX6 87 yX6_stampError, Cond.instanceMethod yX6_stampError, Cond.selects RX6 yX6_stampError yX6_stampError, Cond.code yX6_stampError cX6_stampError 2 (some .int), Cond.methodLink RX6 77 yX6_strikeError, Cond.instanceMethod yX6_strikeError, Cond.selects RX6 yX6_strikeError yX6_strikeError, Cond.code yX6_strikeError cX6_strikeError 4 (some .int), Cond.methodLink RX6 63 yX6_pairError]
def wsX6_run_r4 : List Cond := [Cond.instanceMethod yX6_pairError, Cond.selects RX6 yX6_pairError yX6_pairError, Cond.code yX6_pairError cX6_pairError 5 (some .int), Cond.methodLink RX6 145 yX6_does, Cond.instanceMethod yX6_does, Cond.selects RX6 yX6_does yX6_does, Cond.code yX6_does cX6_does 1 (some .int), Cond.methodLink RX6 84 yX6_mends, Cond.instanceMethod yX6_mends, Cond.selects RX6 yX6_mends yX6_mends, Cond.code yX6_mends cX6_mends 2 (some .int), Cond.methodLink RX6 90 yX6_stamps, Cond.instanceMethod yX6_stamps, Cond.selects RX6 yX6_stamps yX6_stamps, Cond.code yX6_stamps cX6_stamps 3 (some .int), Cond.methodLink RX6 37 yX6_smashes, Cond.instanceMethod yX6_smashes, Cond.selects RX6 yX6_smashes yX6_smashes, Cond.code yX6_smashes cX6_smashes 3 none, Cond.methodLink RX6 51 yX6_strikes, Cond.instanceMethod yX6_strikes, Cond.selects RX6 yX6_strikes yX6_strikes, Cond.code yX6_strikes cX6_strikes 11 (some .int), Cond.methodLink RX6 34 yX6_less]
def wsX6_run_r5 : List Cond := [Cond.static yX6_less, Cond.code yX6_less cX6_less 2 (some .int)]
def wsX6_run : List Cond := .code yX6_run cX6_run 6 (some .int) :: ((wsX6_run_r1 ++ (wsX6_run_r2 ++ (wsX6_run_r3 ++ (wsX6_run_r4 ++ wsX6_run_r5)))) ++ wsX60)
def wsX6_undo : List Cond := .code yX6_undo cX6_undo 1 (some .int) :: ([.fieldLink RX6 22 "ConkerHeirsModel" "states" "I", .methodLink RX6 26 yX6_copies, .instanceMethod yX6_copies, .selects RX6 yX6_copies yX6_copies, .initialized RX6, .code yX6_copies cX6_copies 4 none, .fieldLink RX6 7 "ConkerHeirsModel" "s" "[I"] ++ wsX60)
def wsX6_conkers : List Cond := .code yX6_conkers cX6_conkers 6 (some .int) :: ([.fieldLink RX6 7 "ConkerHeirsModel" "s" "[I", .methodLink RX6 30 yX6_at, .static yX6_at, .initialized RX6, .code yX6_at cX6_at 2 (some .int), .methodLink RX6 40 yX6_flag, .static yX6_flag, .code yX6_flag cX6_flag 1 (some .int)] ++ wsX60)
def wsX6_save : List Cond := .code yX6_save cX6_save 1 (some .int) :: ([.fieldLink RX6 148 "ConkerHeirsModel" "isSaved" "Z", .methodLink RX6 26 yX6_copies, .instanceMethod yX6_copies, .selects RX6 yX6_copies yX6_copies, .initialized RX6, .code yX6_copies cX6_copies 4 none, .fieldLink RX6 7 "ConkerHeirsModel" "s" "[I", .methodLink RX6 152 yX6_conkers, .instanceMethod yX6_conkers, .selects RX6 yX6_conkers yX6_conkers, .code yX6_conkers cX6_conkers 6 (some .int), .methodLink RX6 30 yX6_at, .static yX6_at, .code yX6_at cX6_at 2 (some .int), .methodLink RX6 40 yX6_flag, .static yX6_flag, .code yX6_flag cX6_flag 1 (some .int)] ++ wsX60)
def wsX6_restore : List Cond := .code yX6_restore cX6_restore 1 (some .int) :: ([.fieldLink RX6 148 "ConkerHeirsModel" "isSaved" "Z", .methodLink RX6 74 yX6_records, .instanceMethod yX6_records, .selects RX6 yX6_records yX6_records, .initialized RX6, .code yX6_records cX6_records 2 none, .fieldLink RX6 22 "ConkerHeirsModel" "states" "I", .methodLink RX6 26 yX6_copies, .instanceMethod yX6_copies, .selects RX6 yX6_copies yX6_copies, .code yX6_copies cX6_copies 4 none, .fieldLink RX6 7 "ConkerHeirsModel" "s" "[I", .methodLink RX6 152 yX6_conkers, .instanceMethod yX6_conkers, .selects RX6 yX6_conkers yX6_conkers, .code yX6_conkers cX6_conkers 6 (some .int), .methodLink RX6 30 yX6_at, .static yX6_at, .code yX6_at cX6_at 2 (some .int), .methodLink RX6 40 yX6_flag, .static yX6_flag, .code yX6_flag cX6_flag 1 (some .int)] ++ wsX60)
def wsX6_heirOf : List Cond := .code yX6_heirOf cX6_heirOf 4 (some .int) :: ([.fieldLink RX6 7 "ConkerHeirsModel" "s" "[I", .methodLink RX6 30 yX6_at, .static yX6_at, .initialized RX6, .code yX6_at cX6_at 2 (some .int), .methodLink RX6 40 yX6_flag, .static yX6_flag, .code yX6_flag cX6_flag 1 (some .int)] ++ wsX60)
def wsX6_conker : List Cond := .code yX6_conker cX6_conker 3 (some .int) :: ([.fieldLink RX6 7 "ConkerHeirsModel" "s" "[I", .methodLink RX6 59 yX6_isConker, .instanceMethod yX6_isConker, .selects RX6 yX6_isConker yX6_isConker, .initialized RX6, .code yX6_isConker cX6_isConker 2 (some .boolean), .methodLink RX6 55 yX6_in, .static yX6_in, .code yX6_in cX6_in 3 (some .boolean), .methodLink RX6 30 yX6_at, .static yX6_at, .code yX6_at cX6_at 2 (some .int), .methodLink RX6 155 yX6_heirOf, .instanceMethod yX6_heirOf, .selects RX6 yX6_heirOf yX6_heirOf, .code yX6_heirOf cX6_heirOf 4 (some .int), .methodLink RX6 40 yX6_flag, .static yX6_flag, .code yX6_flag cX6_flag 1 (some .int)] ++ wsX60)
def wsX6_victories : List Cond := .code yX6_victories cX6_victories 5 (some .int) :: ([.fieldLink RX6 7 "ConkerHeirsModel" "s" "[I", .methodLink RX6 30 yX6_at, .static yX6_at, .initialized RX6, .code yX6_at cX6_at 2 (some .int)] ++ wsX60)
def wsX6_player_r1 : List Cond := [Cond.fieldLink RX6 7 "ConkerHeirsModel" "s" "[I", Cond.methodLink RX6 71 yX6_isPlayer, Cond.static yX6_isPlayer, Cond.initialized RX6, Cond.code yX6_isPlayer cX6_isPlayer 1 (some .boolean), Cond.methodLink RX6 55 yX6_in, Cond.static yX6_in, Cond.code yX6_in cX6_in 3 (some .boolean), Cond.methodLink RX6 152 yX6_conkers, Cond.instanceMethod yX6_conkers, Cond.selects RX6 yX6_conkers yX6_conkers, Cond.code yX6_conkers cX6_conkers 6 (some .int), Cond.methodLink RX6 30 yX6_at, Cond.static yX6_at, Cond.code yX6_at cX6_at 2 (some .int), Cond.methodLink RX6 40 yX6_flag, Cond.static yX6_flag, Cond.code yX6_flag cX6_flag 1 (some .int), Cond.methodLink RX6 158 yX6_victories, Cond.instanceMethod yX6_victories, Cond.selects RX6 yX6_victories yX6_victories, Cond.code yX6_victories cX6_victories 5 (some .int), Cond.methodLink RX6 100 yX6_best, Cond.instanceMethod yX6_best]
def wsX6_player_r2 : List Cond := [Cond.selects RX6 yX6_best yX6_best, Cond.code yX6_best cX6_best 6 (some .int)]
def wsX6_player : List Cond := .code yX6_player cX6_player 3 (some .int) :: ((wsX6_player_r1 ++ wsX6_player_r2) ++ wsX60)
def wsX6_ahead : List Cond := .code yX6_ahead cX6_ahead 6 (some .int) :: ([.fieldLink RX6 7 "ConkerHeirsModel" "s" "[I", .methodLink RX6 30 yX6_at, .static yX6_at, .initialized RX6, .code yX6_at cX6_at 2 (some .int), .methodLink RX6 40 yX6_flag, .static yX6_flag, .code yX6_flag cX6_flag 1 (some .int)] ++ wsX60)
def wsX6_ranked : List Cond := .code yX6_ranked cX6_ranked 3 (some .int) :: ([.fieldLink RX6 7 "ConkerHeirsModel" "s" "[I", .methodLink RX6 30 yX6_at, .static yX6_at, .initialized RX6, .code yX6_at cX6_at 2 (some .int), .methodLink RX6 161 yX6_ahead, .instanceMethod yX6_ahead, .selects RX6 yX6_ahead yX6_ahead, .code yX6_ahead cX6_ahead 6 (some .int), .methodLink RX6 40 yX6_flag, .static yX6_flag, .code yX6_flag cX6_flag 1 (some .int)] ++ wsX60)
def wsX6_isInLine : List Cond := .code yX6_isInLine cX6_isInLine 5 (some .boolean) :: ([.fieldLink RX6 7 "ConkerHeirsModel" "s" "[I", .methodLink RX6 30 yX6_at, .static yX6_at, .initialized RX6, .code yX6_at cX6_at 2 (some .int)] ++ wsX60)
def wsX6_line : List Cond := .code yX6_line cX6_line 4 (some .int) :: ([.fieldLink RX6 7 "ConkerHeirsModel" "s" "[I", .methodLink RX6 59 yX6_isConker, .instanceMethod yX6_isConker, .selects RX6 yX6_isConker yX6_isConker, .initialized RX6, .code yX6_isConker cX6_isConker 2 (some .boolean), .methodLink RX6 55 yX6_in, .static yX6_in, .code yX6_in cX6_in 3 (some .boolean), .methodLink RX6 164 yX6_isInLine, .instanceMethod yX6_isInLine, .selects RX6 yX6_isInLine yX6_isInLine, .code yX6_isInLine cX6_isInLine 5 (some .boolean), .methodLink RX6 30 yX6_at, .static yX6_at, .code yX6_at cX6_at 2 (some .int), .methodLink RX6 40 yX6_flag, .static yX6_flag, .code yX6_flag cX6_flag 1 (some .int)] ++ wsX60)
def wsX6_boasts : List Cond := .code yX6_boasts cX6_boasts 5 (some .int) :: ([.fieldLink RX6 7 "ConkerHeirsModel" "s" "[I", .methodLink RX6 30 yX6_at, .static yX6_at, .initialized RX6, .code yX6_at cX6_at 2 (some .int), .methodLink RX6 40 yX6_flag, .static yX6_flag, .code yX6_flag cX6_flag 1 (some .int)] ++ wsX60)
def wsX6_count : List Cond := .code yX6_count cX6_count 2 (some .int) :: ([.fieldLink RX6 7 "ConkerHeirsModel" "s" "[I", .fieldLink RX6 22 "ConkerHeirsModel" "states" "I", .fieldLink RX6 107 "ConkerHeirsModel" "typed" "I", .methodLink RX6 152 yX6_conkers, .instanceMethod yX6_conkers, .selects RX6 yX6_conkers yX6_conkers, .initialized RX6, .code yX6_conkers cX6_conkers 6 (some .int), .methodLink RX6 30 yX6_at, .static yX6_at, .code yX6_at cX6_at 2 (some .int), .methodLink RX6 40 yX6_flag, .static yX6_flag, .code yX6_flag cX6_flag 1 (some .int), .methodLink RX6 158 yX6_victories, .instanceMethod yX6_victories, .selects RX6 yX6_victories yX6_victories, .code yX6_victories cX6_victories 5 (some .int), .methodLink RX6 167 yX6_boasts, .instanceMethod yX6_boasts, .selects RX6 yX6_boasts yX6_boasts, .code yX6_boasts cX6_boasts 5 (some .int)] ++ wsX60)
def wsX6_ifStruck_r1 : List Cond := [Cond.methodLink RX6 77 yX6_strikeError, Cond.instanceMethod yX6_strikeError, Cond.selects RX6 yX6_strikeError yX6_strikeError, Cond.initialized RX6, Cond.code yX6_strikeError cX6_strikeError 4 (some .int), Cond.methodLink RX6 55 yX6_in, Cond.static yX6_in, Cond.code yX6_in cX6_in 3 (some .boolean), Cond.methodLink RX6 63 yX6_pairError, Cond.instanceMethod yX6_pairError, Cond.selects RX6 yX6_pairError yX6_pairError, Cond.code yX6_pairError cX6_pairError 5 (some .int), Cond.fieldLink RX6 7 "ConkerHeirsModel" "s" "[I", Cond.methodLink RX6 59 yX6_isConker, Cond.instanceMethod yX6_isConker, Cond.selects RX6 yX6_isConker yX6_isConker, Cond.code yX6_isConker cX6_isConker 2 (some .boolean), Cond.methodLink RX6 30 yX6_at, Cond.static yX6_at, Cond.code yX6_at cX6_at 2 (some .int), Cond.methodLink RX6 26 yX6_copies, Cond.instanceMethod yX6_copies, Cond.selects RX6 yX6_copies yX6_copies, Cond.code yX6_copies cX6_copies 4 none]
def wsX6_ifStruck_r2 : List Cond := [Cond.methodLink RX6 51 yX6_strikes, Cond.instanceMethod yX6_strikes, Cond.selects RX6 yX6_strikes yX6_strikes, Cond.code yX6_strikes cX6_strikes 11 (some .int), Cond.methodLink RX6 34 yX6_less, Cond.static yX6_less, Cond.code yX6_less cX6_less 2 (some .int), Cond.methodLink RX6 37 yX6_smashes, Cond.instanceMethod yX6_smashes, Cond.selects RX6 yX6_smashes yX6_smashes, Cond.code yX6_smashes cX6_smashes 3 none, Cond.methodLink RX6 40 yX6_flag, Cond.static yX6_flag, Cond.code yX6_flag cX6_flag 1 (some .int)]
def wsX6_ifStruck : List Cond := .code yX6_ifStruck cX6_ifStruck 5 (some .int) :: ((wsX6_ifStruck_r1 ++ wsX6_ifStruck_r2) ++ wsX60)
def wsX6_leastSwing_r1 : List Cond := [Cond.methodLink RX6 77 yX6_strikeError, Cond.instanceMethod yX6_strikeError, Cond.selects RX6 yX6_strikeError yX6_strikeError, Cond.initialized RX6, Cond.code yX6_strikeError cX6_strikeError 4 (some .int), Cond.methodLink RX6 55 yX6_in, Cond.static yX6_in, Cond.code yX6_in cX6_in 3 (some .boolean), Cond.methodLink RX6 63 yX6_pairError, Cond.instanceMethod yX6_pairError, Cond.selects RX6 yX6_pairError yX6_pairError, Cond.code yX6_pairError cX6_pairError 5 (some .int), Cond.fieldLink RX6 7 "ConkerHeirsModel" "s" "[I", Cond.methodLink RX6 59 yX6_isConker, Cond.instanceMethod yX6_isConker, Cond.selects RX6 yX6_isConker yX6_isConker, Cond.code yX6_isConker cX6_isConker 2 (some .boolean), Cond.methodLink RX6 30 yX6_at, Cond.static yX6_at, Cond.code yX6_at cX6_at 2 (some .int), Cond.methodLink RX6 26 yX6_copies, Cond.instanceMethod yX6_copies, Cond.selects RX6 yX6_copies yX6_copies, Cond.code yX6_copies cX6_copies 4 none]
def wsX6_leastSwing_r2 : List Cond := [Cond.methodLink RX6 51 yX6_strikes, Cond.instanceMethod yX6_strikes, Cond.selects RX6 yX6_strikes yX6_strikes, Cond.code yX6_strikes cX6_strikes 11 (some .int), Cond.methodLink RX6 34 yX6_less, Cond.static yX6_less, Cond.code yX6_less cX6_less 2 (some .int), Cond.methodLink RX6 37 yX6_smashes, Cond.instanceMethod yX6_smashes, Cond.selects RX6 yX6_smashes yX6_smashes, Cond.code yX6_smashes cX6_smashes 3 none, Cond.methodLink RX6 40 yX6_flag, Cond.static yX6_flag, Cond.code yX6_flag cX6_flag 1 (some .int)]
def wsX6_leastSwing : List Cond := .code yX6_leastSwing cX6_leastSwing 5 (some .int) :: ((wsX6_leastSwing_r1 ++ wsX6_leastSwing_r2) ++ wsX60)
end
section
def wsX6_winner_r1 : List Cond := [Cond.fieldLink RX6 44 "ConkerHeirsModel" "x" "I", Cond.fieldLink RX6 7 "ConkerHeirsModel" "s" "[I", Cond.methodLink RX6 94 yX6_boutError, Cond.instanceMethod yX6_boutError, Cond.selects RX6 yX6_boutError yX6_boutError, Cond.initialized RX6, Cond.code yX6_boutError cX6_boutError 4 (some .int), Cond.constant RX6 93 (65535), Cond.methodLink RX6 55 yX6_in, Cond.static yX6_in, Cond.code yX6_in cX6_in 3 (some .boolean), Cond.methodLink RX6 63 yX6_pairError, Cond.instanceMethod yX6_pairError, Cond.selects RX6 yX6_pairError yX6_pairError, Cond.code yX6_pairError cX6_pairError 5 (some .int), Cond.methodLink RX6 59 yX6_isConker, Cond.instanceMethod yX6_isConker, Cond.selects RX6 yX6_isConker yX6_isConker, Cond.code yX6_isConker cX6_isConker 2 (some .boolean), Cond.methodLink RX6 30 yX6_at, Cond.static yX6_at, Cond.code yX6_at cX6_at 2 (some .int), Cond.methodLink RX6 26 yX6_copies, Cond.instanceMethod yX6_copies]
def wsX6_winner_r2 : List Cond := [Cond.selects RX6 yX6_copies yX6_copies, Cond.code yX6_copies cX6_copies 4 none, Cond.methodLink RX6 97 yX6_fights, Cond.instanceMethod yX6_fights, Cond.selects RX6 yX6_fights yX6_fights, Cond.code yX6_fights cX6_fights 9 (some .int), Cond.methodLink RX6 34 yX6_less, Cond.static yX6_less, Cond.code yX6_less cX6_less 2 (some .int), Cond.methodLink RX6 48 yX6_goesOn, Cond.instanceMethod yX6_goesOn, Cond.selects RX6 yX6_goesOn yX6_goesOn, Cond.code yX6_goesOn cX6_goesOn 1 none, Cond.constant RX6 47 (65536), Cond.methodLink RX6 51 yX6_strikes, Cond.instanceMethod yX6_strikes, Cond.selects RX6 yX6_strikes yX6_strikes, Cond.code yX6_strikes cX6_strikes 11 (some .int), Cond.methodLink RX6 37 yX6_smashes, Cond.instanceMethod yX6_smashes, Cond.selects RX6 yX6_smashes yX6_smashes, Cond.code yX6_smashes cX6_smashes 3 none, Cond.methodLink RX6 40 yX6_flag, Cond.static yX6_flag]
def wsX6_winner_r3 : List Cond := [Cond.code yX6_flag cX6_flag 1 (some .int)]
def wsX6_winner : List Cond := .code yX6_winner cX6_winner 8 (some .int) :: ((wsX6_winner_r1 ++ (wsX6_winner_r2 ++ wsX6_winner_r3)) ++ wsX60)
def wsX6_share : List Cond := .code yX6_share cX6_share 3 (some .float) :: ([.methodLink RX6 158 yX6_victories, .instanceMethod yX6_victories, .selects RX6 yX6_victories yX6_victories, .initialized RX6, .code yX6_victories cX6_victories 5 (some .int), .fieldLink RX6 7 "ConkerHeirsModel" "s" "[I", .methodLink RX6 30 yX6_at, .static yX6_at, .code yX6_at cX6_at 2 (some .int), .methodLink RX6 71 yX6_isPlayer, .static yX6_isPlayer, .code yX6_isPlayer cX6_isPlayer 1 (some .boolean), .methodLink RX6 55 yX6_in, .static yX6_in, .code yX6_in cX6_in 3 (some .boolean)] ++ wsX60)
def wsJ9_max_7cf53 : List Cond := .code yJ9_max_7cf53 cJ9_max_7cf53 2 (some .int) :: ([])
def wsJ9_min_7cf53 : List Cond := .code yJ9_min_7cf53 cJ9_min_7cf53 2 (some .int) :: ([])
def wsL_law_r1 : List Cond := [Cond.classLink RL 7 RX5, Cond.instantiable RX5 8, Cond.initialized RX5, Cond.classLink RL 10 RX6, Cond.instantiable RX6 13, Cond.initialized RX6, Cond.methodLink RL 9 yX5_init, Cond.instanceMethod yX5_init, Cond.code yX5_init cX5_init 1 none, Cond.methodLink RX5 1 objectInit, Cond.instanceMethod objectInit, Cond.code objectInit ⟨#[0xb1]⟩ 1 none, Cond.classLink RX5 7 RX4, Cond.instantiable RX4 13, Cond.initialized RX4, Cond.fieldLink RX5 10 "ConkerHeirs" "now" "LConkerHeirs$State;", Cond.fieldLink RX5 16 "ConkerHeirs" "snapshot" "LConkerHeirs$State;", Cond.fieldLink RX5 19 "ConkerHeirs" "trial" "LConkerHeirs$State;", Cond.classLink RX5 22 RX1, Cond.instantiable RX1 2, Cond.initialized RX1, Cond.fieldLink RX5 25 "ConkerHeirs" "history" "LConkerHeirs$History;", Cond.classLink RX5 29 RX3, Cond.instantiable RX3 7]
def wsL_law_r2 : List Cond := [Cond.initialized RX3, Cond.fieldLink RX5 32 "ConkerHeirs" "script" "LConkerHeirs$Script;", Cond.classLink RX5 36 RX0, Cond.instantiable RX0 1, Cond.initialized RX0, Cond.fieldLink RX5 39 "ConkerHeirs" "draws" "LConkerHeirs$Draws;", Cond.classLink RX5 43 RX2, Cond.instantiable RX2 2, Cond.initialized RX2, Cond.fieldLink RX5 46 "ConkerHeirs" "row" "LConkerHeirs$Row;", Cond.fieldLink RX5 50 "ConkerHeirs" "hasSnapshot" "Z", Cond.methodLink RX5 9 yX4_init, Cond.instanceMethod yX4_init, Cond.code yX4_init cX4_init 2 none, Cond.methodLink RX4 3 objectInit, Cond.arrayClass .int, Cond.fieldLink RX4 9 "ConkerHeirs$State" "strings" "[I", Cond.fieldLink RX4 15 "ConkerHeirs$State" "shame" "[I", Cond.fieldLink RX4 18 "ConkerHeirs$State" "owner" "[I", Cond.fieldLink RX4 21 "ConkerHeirs$State" "hardness" "[I", Cond.fieldLink RX4 24 "ConkerHeirs$State" "crack" "[I", Cond.fieldLink RX4 27 "ConkerHeirs$State" "wear" "[I", Cond.fieldLink RX4 30 "ConkerHeirs$State" "victories" "[I", Cond.fieldLink RX4 33 "ConkerHeirs$State" "boasts" "[I"]
def wsL_law_r3 : List Cond := [Cond.fieldLink RX4 36 "ConkerHeirs$State" "how" "[I", Cond.fieldLink RX4 39 "ConkerHeirs$State" "smashedBy" "[I", Cond.fieldLink RX4 42 "ConkerHeirs$State" "conkers" "I", Cond.fieldLink RX4 46 "ConkerHeirs$State" "lostVictories" "I", Cond.fieldLink RX4 49 "ConkerHeirs$State" "strikes" "I", Cond.methodLink RX5 24 yX1_init, Cond.instanceMethod yX1_init, Cond.code yX1_init cX1_init 2 none, Cond.methodLink RX1 3 objectInit, Cond.classLink RX1 9 RX4, Cond.fieldLink RX1 11 "ConkerHeirs$History" "states" "[LConkerHeirs$State;", Cond.fieldLink RX1 17 "ConkerHeirs$History" "held" "I", Cond.methodLink RX1 21 yX4_init, Cond.instanceMethod yX3_init, Cond.code yX3_init cX3_init 1 none, Cond.methodLink RX3 3 objectInit, Cond.arrayClass .char, Cond.fieldLink RX3 9 "ConkerHeirs$Script" "signs" "[C", Cond.fieldLink RX3 15 "ConkerHeirs$Script" "length" "I", Cond.fieldLink RX3 19 "ConkerHeirs$Script" "at" "I", Cond.fieldLink RX3 22 "ConkerHeirs$Script" "kind" "C", Cond.fieldLink RX3 26 "ConkerHeirs$Script" "first" "I", Cond.fieldLink RX3 29 "ConkerHeirs$Script" "second" "I", Cond.fieldLink RX3 32 "ConkerHeirs$Script" "swing" "I"]
def wsL_law_r4 : List Cond := [Cond.instanceMethod yX0_init, Cond.code yX0_init cX0_init 1 none, Cond.methodLink RX0 1 objectInit, Cond.fieldLink RX0 7 "ConkerHeirs$Draws" "x" "I", Cond.instanceMethod yX2_init, Cond.code yX2_init cX2_init 1 none, Cond.methodLink RX2 3 objectInit, Cond.fieldLink RX2 9 "ConkerHeirs$Row" "conkers" "[I", Cond.fieldLink RX2 15 "ConkerHeirs$Row" "length" "I", Cond.methodLink RL 12 yX6_init, Cond.instanceMethod yX6_init, Cond.code yX6_init cX6_init 2 none, Cond.methodLink RX6 1 objectInit, Cond.fieldLink RX6 7 "ConkerHeirsModel" "s" "[I", Cond.fieldLink RX6 13 "ConkerHeirsModel" "text" "[I", Cond.fieldLink RX6 16 "ConkerHeirsModel" "row" "[I", Cond.fieldLink RX6 19 "ConkerHeirsModel" "sent" "[I", Cond.methodLink RL 13 yX5_thread, Cond.instanceMethod yX5_thread, Cond.selects RX5 yX5_thread yX5_thread, Cond.code yX5_thread cX5_thread 3 (some .int), Cond.fieldLink RX5 62 "ConkerHeirs$State" "strings" "[I", Cond.fieldLink RX5 66 "ConkerHeirs$State" "conkers" "I", Cond.methodLink RX5 54 yX5_isPlayer]
def wsL_law_r5 : List Cond := [Cond.static yX5_isPlayer, Cond.code yX5_isPlayer cX5_isPlayer 1 (some .boolean), Cond.methodLink RX5 58 yX5_isWithin, Cond.static yX5_isWithin, Cond.code yX5_isWithin cX5_isWithin 3 (some .boolean), Cond.methodLink RX5 70 yX1_keep, Cond.instanceMethod yX1_keep, Cond.selects RX1 yX1_keep yX1_keep, Cond.code yX1_keep cX1_keep 2 none, Cond.methodLink RX1 22 yX1_dropOldest, Cond.instanceMethod yX1_dropOldest, Cond.selects RX1 yX1_dropOldest yX1_dropOldest, Cond.code yX1_dropOldest cX1_dropOldest 3 none, Cond.methodLink RX1 25 yX4_copyFrom, Cond.instanceMethod yX4_copyFrom, Cond.selects RX4 yX4_copyFrom yX4_copyFrom, Cond.code yX4_copyFrom cX4_copyFrom 2 none, Cond.methodLink RX4 52 arraycopyName, Cond.native arraycopyName, Cond.static arraycopyName, Cond.initialized "java/lang/System", Cond.methodLink RX5 74 yX4_addConker, Cond.instanceMethod yX4_addConker, Cond.selects RX4 yX4_addConker yX4_addConker]
def wsL_law_r6 : List Cond := [Cond.code yX4_addConker cX4_addConker 4 (some .int), Cond.methodLink RL 17 yX6_thread, Cond.instanceMethod yX6_thread, Cond.selects RX6 yX6_thread yX6_thread, Cond.code yX6_thread cX6_thread 5 (some .int), Cond.methodLink RX6 71 yX6_isPlayer, Cond.static yX6_isPlayer, Cond.code yX6_isPlayer cX6_isPlayer 1 (some .boolean), Cond.methodLink RX6 55 yX6_in, Cond.static yX6_in, Cond.code yX6_in cX6_in 3 (some .boolean), Cond.methodLink RX6 74 yX6_records, Cond.instanceMethod yX6_records, Cond.selects RX6 yX6_records yX6_records, Cond.code yX6_records cX6_records 2 none, Cond.fieldLink RX6 22 "ConkerHeirsModel" "states" "I", Cond.methodLink RX6 26 yX6_copies, Cond.instanceMethod yX6_copies, Cond.selects RX6 yX6_copies yX6_copies, Cond.code yX6_copies cX6_copies 4 none, Cond.methodLink RX6 30 yX6_at, Cond.static yX6_at, Cond.code yX6_at cX6_at 2 (some .int), Cond.methodLink RL 18 yX5_give]
def wsL_law_r7 : List Cond := [Cond.instanceMethod yX5_give, Cond.selects RX5 yX5_give yX5_give, Cond.code yX5_give cX5_give 3 (some .int), Cond.methodLink RL 21 yX6_give, Cond.instanceMethod yX6_give, Cond.selects RX6 yX6_give yX6_give, Cond.code yX6_give cX6_give 3 (some .int), Cond.methodLink RL 22 yX5_strike, Cond.instanceMethod yX5_strike, Cond.selects RX5 yX5_strike yX5_strike, Cond.code yX5_strike cX5_strike 5 (some .int), Cond.methodLink RX5 78 yX4_strikeError, Cond.instanceMethod yX4_strikeError, Cond.selects RX4 yX4_strikeError yX4_strikeError, Cond.code yX4_strikeError cX4_strikeError 4 (some .int), Cond.methodLink RX4 62 yX4_pairError, Cond.instanceMethod yX4_pairError, Cond.selects RX4 yX4_pairError yX4_pairError, Cond.code yX4_pairError cX4_pairError 4 (some .int), Cond.methodLink RX4 67 yX4_hasConker, Cond.instanceMethod yX4_hasConker, Cond.selects RX4 yX4_hasConker yX4_hasConker, Cond.code yX4_hasConker cX4_hasConker 2 (some .boolean), Cond.methodLink RX4 71 yX4_areInPlay]
def wsL_law_r8 : List Cond := [Cond.instanceMethod yX4_areInPlay, Cond.selects RX4 yX4_areInPlay yX4_areInPlay, Cond.code yX4_areInPlay cX4_areInPlay 3 (some .boolean), Cond.methodLink RX5 82 yX4_hit, Cond.instanceMethod yX4_hit, Cond.selects RX4 yX4_hit yX4_hit, Cond.code yX4_hit cX4_hit 6 (some .int), Cond.methodLink RX4 86 Lib.Math.min.name, Cond.static Lib.Math.min.name, Cond.initialized "java/lang/Math", Cond.code Lib.Math.min.name Lib.Math.min.code 2 (some .int), Cond.methodLink RX4 82 yX4_quotient, Cond.static yX4_quotient, Cond.code yX4_quotient cX4_quotient 2 (some .int), Cond.methodLink RX4 91 yX4_settleSmashes, Cond.instanceMethod yX4_settleSmashes, Cond.selects RX4 yX4_settleSmashes yX4_settleSmashes, Cond.code yX4_settleSmashes cX4_settleSmashes 5 none, Cond.methodLink RX4 115 yX4_crush, Cond.instanceMethod yX4_crush, Cond.selects RX4 yX4_crush yX4_crush, Cond.code yX4_crush cX4_crush 3 (some .int), Cond.methodLink RX4 79 yX4_takeVictoriesOfSmashed, Cond.instanceMethod yX4_takeVictoriesOfSmashed]
def wsL_law_r9 : List Cond := [Cond.selects RX4 yX4_takeVictoriesOfSmashed yX4_takeVictoriesOfSmashed, Cond.code yX4_takeVictoriesOfSmashed cX4_takeVictoriesOfSmashed 3 (some .int), Cond.methodLink RX4 118 yX4_inherit, Cond.instanceMethod yX4_inherit, Cond.selects RX4 yX4_inherit yX4_inherit, Cond.code yX4_inherit cX4_inherit 3 none, Cond.methodLink RX4 95 yX4_fallIfWorn, Cond.instanceMethod yX4_fallIfWorn, Cond.selects RX4 yX4_fallIfWorn yX4_fallIfWorn, Cond.code yX4_fallIfWorn cX4_fallIfWorn 2 none, Cond.methodLink RX4 99 yX4_outcome, Cond.instanceMethod yX4_outcome, Cond.selects RX4 yX4_outcome yX4_outcome, Cond.code yX4_outcome cX4_outcome 4 (some .int), Cond.methodLink RL 26 yX6_strike, Cond.instanceMethod yX6_strike, Cond.selects RX6 yX6_strike yX6_strike, Cond.code yX6_strike cX6_strike 5 (some .int), Cond.methodLink RX6 77 yX6_strikeError, Cond.instanceMethod yX6_strikeError, Cond.selects RX6 yX6_strikeError yX6_strikeError, Cond.code yX6_strikeError cX6_strikeError 4 (some .int), Cond.methodLink RX6 63 yX6_pairError, Cond.instanceMethod yX6_pairError]
def wsL_law_r10 : List Cond := [Cond.selects RX6 yX6_pairError yX6_pairError, Cond.code yX6_pairError cX6_pairError 5 (some .int), Cond.methodLink RX6 59 yX6_isConker, Cond.instanceMethod yX6_isConker, Cond.selects RX6 yX6_isConker yX6_isConker, Cond.code yX6_isConker cX6_isConker 2 (some .boolean), Cond.methodLink RX6 51 yX6_strikes, Cond.instanceMethod yX6_strikes, Cond.selects RX6 yX6_strikes yX6_strikes, Cond.code yX6_strikes cX6_strikes 11 (some .int), Cond.methodLink RX6 34 yX6_less, Cond.static yX6_less, Cond.code yX6_less cX6_less 2 (some .int), Cond.methodLink RX6 37 yX6_smashes, Cond.instanceMethod yX6_smashes, Cond.selects RX6 yX6_smashes yX6_smashes, Cond.code yX6_smashes cX6_smashes 3 none, Cond.methodLink RX6 40 yX6_flag, Cond.static yX6_flag, Cond.code yX6_flag cX6_flag 1 (some .int), Cond.methodLink RL 27 yX5_mend, Cond.instanceMethod yX5_mend, Cond.selects RX5 yX5_mend yX5_mend, Cond.code yX5_mend cX5_mend 3 (some .int)]
def wsL_law_r11 : List Cond := [Cond.methodLink RX5 85 yX4_mendError, Cond.instanceMethod yX4_mendError, Cond.selects RX4 yX4_mendError yX4_mendError, Cond.code yX4_mendError cX4_mendError 3 (some .int), Cond.methodLink RX4 75 yX4_fallenError, Cond.instanceMethod yX4_fallenError, Cond.selects RX4 yX4_fallenError yX4_fallenError, Cond.code yX4_fallenError cX4_fallenError 2 (some .int), Cond.methodLink RX5 89 yX4_threadAgain, Cond.instanceMethod yX4_threadAgain, Cond.selects RX4 yX4_threadAgain yX4_threadAgain, Cond.code yX4_threadAgain cX4_threadAgain 3 (some .int), Cond.methodLink RL 31 yX6_mend, Cond.instanceMethod yX6_mend, Cond.selects RX6 yX6_mend yX6_mend, Cond.code yX6_mend cX6_mend 3 (some .int), Cond.methodLink RX6 81 yX6_mendError, Cond.instanceMethod yX6_mendError, Cond.selects RX6 yX6_mendError yX6_mendError, Cond.code yX6_mendError cX6_mendError 2 (some .int), Cond.methodLink RX6 67 yX6_spare, Cond.instanceMethod yX6_spare, Cond.selects RX6 yX6_spare yX6_spare, Cond.code yX6_spare cX6_spare 2 (some .int)]
def wsL_law_r12 : List Cond := [Cond.methodLink RX6 84 yX6_mends, Cond.instanceMethod yX6_mends, Cond.selects RX6 yX6_mends yX6_mends, Cond.code yX6_mends cX6_mends 2 (some .int), Cond.methodLink RL 32 yX5_stamp, Cond.instanceMethod yX5_stamp, Cond.selects RX5 yX5_stamp yX5_stamp, Cond.code yX5_stamp cX5_stamp 3 (some .int), Cond.methodLink RX5 92 yX4_fallenError, Cond.methodLink RX5 95 yX4_crush, Cond.methodLink RL 35 yX6_stamp, Cond.instanceMethod yX6_stamp, Cond.selects RX6 yX6_stamp yX6_stamp, Cond.code yX6_stamp cX6_stamp 3 (some .int), Cond.methodLink RX6 87 yX6_stampError, Cond.instanceMethod yX6_stampError, Cond.selects RX6 yX6_stampError yX6_stampError, Cond.code yX6_stampError cX6_stampError 2 (some .int), Cond.methodLink RX6 90 yX6_stamps, Cond.instanceMethod yX6_stamps, Cond.selects RX6 yX6_stamps yX6_stamps, Cond.code yX6_stamps cX6_stamps 3 (some .int), Cond.methodLink RL 36 yX5_boast, Cond.instanceMethod yX5_boast]
def wsL_law_r13 : List Cond := [Cond.selects RX5 yX5_boast yX5_boast, Cond.code yX5_boast cX5_boast 4 (some .int), Cond.fieldLink RX5 101 "ConkerHeirs$State" "how" "[I", Cond.fieldLink RX5 104 "ConkerHeirs$State" "boasts" "[I", Cond.methodLink RX5 98 yX4_hasConker, Cond.methodLink RL 39 yX6_boast, Cond.instanceMethod yX6_boast, Cond.selects RX6 yX6_boast yX6_boast, Cond.code yX6_boast cX6_boast 5 (some .int), Cond.methodLink RL 40 yX5_doubt, Cond.instanceMethod yX5_doubt, Cond.selects RX5 yX5_doubt yX5_doubt, Cond.code yX5_doubt cX5_doubt 3 (some .int), Cond.fieldLink RX5 107 "ConkerHeirs$State" "owner" "[I", Cond.methodLink RX5 110 yX4_settleBoast, Cond.instanceMethod yX4_settleBoast, Cond.selects RX4 yX4_settleBoast yX4_settleBoast, Cond.code yX4_settleBoast cX4_settleBoast 4 (some .int), Cond.methodLink RL 43 yX6_doubt, Cond.instanceMethod yX6_doubt, Cond.selects RX6 yX6_doubt yX6_doubt, Cond.code yX6_doubt cX6_doubt 5 (some .int), Cond.methodLink RL 44 yX5_bout, Cond.instanceMethod yX5_bout]
def wsL_law_r14 : List Cond := [Cond.selects RX5 yX5_bout yX5_bout, Cond.code yX5_bout cX5_bout 5 (some .int), Cond.methodLink RX5 113 yX4_boutError, Cond.instanceMethod yX4_boutError, Cond.selects RX4 yX4_boutError yX4_boutError, Cond.code yX4_boutError cX4_boutError 4 (some .int), Cond.constant RX4 66 (65535), Cond.methodLink RX5 116 yX0_begin, Cond.instanceMethod yX0_begin, Cond.selects RX0 yX0_begin yX0_begin, Cond.code yX0_begin cX0_begin 2 none, Cond.methodLink RX5 120 yX4_fight, Cond.instanceMethod yX4_fight, Cond.selects RX4 yX4_fight yX4_fight, Cond.code yX4_fight cX4_fight 8 (some .int), Cond.methodLink RX4 103 Lib.Math.max.name, Cond.static Lib.Math.max.name, Cond.code Lib.Math.max.name Lib.Math.max.code 2 (some .int), Cond.methodLink RX4 106 yX0_swing, Cond.instanceMethod yX0_swing, Cond.selects RX0 yX0_swing yX0_swing, Cond.code yX0_swing cX0_swing 1 (some .int), Cond.methodLink RX0 14 yX0_next, Cond.instanceMethod yX0_next]
def wsL_law_r15 : List Cond := [Cond.selects RX0 yX0_next yX0_next, Cond.code yX0_next cX0_next 1 (some .int), Cond.constant RX0 13 (65536), Cond.methodLink RX4 112 yX4_hit, Cond.methodLink RL 47 yX6_bout, Cond.instanceMethod yX6_bout, Cond.selects RX6 yX6_bout yX6_bout, Cond.code yX6_bout cX6_bout 5 (some .int), Cond.fieldLink RX6 44 "ConkerHeirsModel" "x" "I", Cond.methodLink RX6 94 yX6_boutError, Cond.instanceMethod yX6_boutError, Cond.selects RX6 yX6_boutError yX6_boutError, Cond.code yX6_boutError cX6_boutError 4 (some .int), Cond.constant RX6 93 (65535), Cond.methodLink RX6 97 yX6_fights, Cond.instanceMethod yX6_fights, Cond.selects RX6 yX6_fights yX6_fights, Cond.code yX6_fights cX6_fights 9 (some .int), Cond.methodLink RX6 48 yX6_goesOn, Cond.instanceMethod yX6_goesOn, Cond.selects RX6 yX6_goesOn yX6_goesOn, Cond.code yX6_goesOn cX6_goesOn 1 none, Cond.constant RX6 47 (65536), Cond.methodLink RL 48 yX5_round]
def wsL_law_r16 : List Cond := [Cond.instanceMethod yX5_round, Cond.selects RX5 yX5_round yX5_round, Cond.code yX5_round cX5_round 5 (some .int), Cond.constant RX5 124 (65535), Cond.fieldLink RX5 128 "ConkerHeirs$Row" "length" "I", Cond.methodLink RX5 125 yX2_lineUp, Cond.instanceMethod yX2_lineUp, Cond.selects RX2 yX2_lineUp yX2_lineUp, Cond.code yX2_lineUp cX2_lineUp 4 none, Cond.methodLink RX2 19 yX4_conkerToSend, Cond.instanceMethod yX4_conkerToSend, Cond.selects RX4 yX4_conkerToSend yX4_conkerToSend, Cond.code yX4_conkerToSend cX4_conkerToSend 4 (some .int), Cond.methodLink RX2 25 yX2_insert, Cond.instanceMethod yX2_insert, Cond.selects RX2 yX2_insert yX2_insert, Cond.code yX2_insert cX2_insert 5 none, Cond.fieldLink RX2 29 "ConkerHeirs$State" "shame" "[I", Cond.fieldLink RX2 32 "ConkerHeirs$State" "owner" "[I", Cond.methodLink RX5 131 yX0_next, Cond.methodLink RX5 135 yX2_takeOut, Cond.instanceMethod yX2_takeOut, Cond.selects RX2 yX2_takeOut yX2_takeOut, Cond.code yX2_takeOut cX2_takeOut 4 (some .int)]
def wsL_law_r17 : List Cond := [Cond.methodLink RL 51 yX6_round, Cond.instanceMethod yX6_round, Cond.selects RX6 yX6_round yX6_round, Cond.code yX6_round cX6_round 9 (some .int), Cond.methodLink RX6 103 yX6_lines, Cond.instanceMethod yX6_lines, Cond.selects RX6 yX6_lines yX6_lines, Cond.code yX6_lines cX6_lines 4 (some .int), Cond.methodLink RX6 100 yX6_best, Cond.instanceMethod yX6_best, Cond.selects RX6 yX6_best yX6_best, Cond.code yX6_best cX6_best 6 (some .int), Cond.methodLink RL 52 yX5_append, Cond.instanceMethod yX5_append, Cond.selects RX5 yX5_append yX5_append, Cond.code yX5_append cX5_append 2 (some .int), Cond.fieldLink RX5 138 "ConkerHeirs$Script" "length" "I", Cond.fieldLink RX5 139 "ConkerHeirs$Script" "signs" "[C", Cond.methodLink RL 55 yX6_append, Cond.instanceMethod yX6_append, Cond.selects RX6 yX6_append yX6_append, Cond.code yX6_append cX6_append 2 (some .int), Cond.fieldLink RX6 107 "ConkerHeirsModel" "typed" "I", Cond.methodLink RL 56 yX5_clearText]
def wsL_law_r18 : List Cond := [Cond.instanceMethod yX5_clearText, Cond.selects RX5 yX5_clearText yX5_clearText, Cond.code yX5_clearText cX5_clearText 2 (some .int), Cond.methodLink RL 60 yX6_clearText, Cond.instanceMethod yX6_clearText, Cond.selects RX6 yX6_clearText yX6_clearText, Cond.code yX6_clearText cX6_clearText 2 (some .int), Cond.methodLink RL 61 yX5_fault, Cond.instanceMethod yX5_fault, Cond.selects RX5 yX5_fault yX5_fault, Cond.code yX5_fault cX5_fault 1 (some .int), Cond.methodLink RX5 143 yX3_findFault, Cond.instanceMethod yX3_findFault, Cond.selects RX3 yX3_findFault yX3_findFault, Cond.code yX3_findFault cX3_findFault 2 (some .int), Cond.methodLink RX3 35 yX3_rewind, Cond.instanceMethod yX3_rewind, Cond.selects RX3 yX3_rewind yX3_rewind, Cond.code yX3_rewind cX3_rewind 1 none, Cond.methodLink RX3 38 yX3_readOrder, Cond.instanceMethod yX3_readOrder, Cond.selects RX3 yX3_readOrder yX3_readOrder, Cond.code yX3_readOrder cX3_readOrder 1 (some .boolean), Cond.methodLink RX3 46 yX3_sign]
def wsL_law_r19 : List Cond := [Cond.instanceMethod yX3_sign, Cond.selects RX3 yX3_sign yX3_sign, Cond.code yX3_sign cX3_sign 1 (some .char), Cond.methodLink RX3 50 yX3_readConker, Cond.instanceMethod yX3_readConker, Cond.selects RX3 yX3_readConker yX3_readConker, Cond.code yX3_readConker cX3_readConker 3 (some .int), Cond.methodLink RX3 54 yX3_digit, Cond.instanceMethod yX3_digit, Cond.selects RX3 yX3_digit yX3_digit, Cond.code yX3_digit cX3_digit 2 (some .int), Cond.methodLink RX3 42 yX3_take, Cond.instanceMethod yX3_take, Cond.selects RX3 yX3_take yX3_take, Cond.code yX3_take cX3_take 2 (some .boolean), Cond.methodLink RL 64 yX6_fault, Cond.instanceMethod yX6_fault, Cond.selects RX6 yX6_fault yX6_fault, Cond.code yX6_fault cX6_fault 2 (some .int), Cond.fieldLink RX6 110 "ConkerHeirsModel" "spot" "I", Cond.methodLink RX6 135 yX6_readsOrder, Cond.instanceMethod yX6_readsOrder, Cond.selects RX6 yX6_readsOrder yX6_readsOrder, Cond.code yX6_readsOrder cX6_readsOrder 1 (some .boolean)]
def wsL_law_r20 : List Cond := [Cond.fieldLink RX6 120 "ConkerHeirsModel" "letter" "I", Cond.fieldLink RX6 126 "ConkerHeirsModel" "one" "I", Cond.fieldLink RX6 129 "ConkerHeirsModel" "two" "I", Cond.fieldLink RX6 132 "ConkerHeirsModel" "three" "I", Cond.methodLink RX6 117 yX6_takes, Cond.instanceMethod yX6_takes, Cond.selects RX6 yX6_takes yX6_takes, Cond.code yX6_takes cX6_takes 3 (some .boolean), Cond.methodLink RX6 113 yX6_isHere, Cond.instanceMethod yX6_isHere, Cond.selects RX6 yX6_isHere yX6_isHere, Cond.code yX6_isHere cX6_isHere 3 (some .boolean), Cond.methodLink RX6 123 yX6_number, Cond.instanceMethod yX6_number, Cond.selects RX6 yX6_number yX6_number, Cond.code yX6_number cX6_number 2 (some .int), Cond.methodLink RL 65 yX5_run, Cond.instanceMethod yX5_run, Cond.selects RX5 yX5_run yX5_run, Cond.code yX5_run cX5_run 3 (some .int), Cond.methodLink RX5 146 yX3_rewind, Cond.methodLink RX5 149 yX3_readOrder, Cond.methodLink RX5 153 yX5_carryOutOrder, Cond.instanceMethod yX5_carryOutOrder]
def wsL_law_r21 : List Cond := [Cond.selects RX5 yX5_carryOutOrder yX5_carryOutOrder, Cond.code yX5_carryOutOrder cX5_carryOutOrder 2 (some .int), Cond.fieldLink RX5 224 "ConkerHeirs$Script" "kind" "C", Cond.fieldLink RX5 228 "ConkerHeirs$Script" "first" "I", Cond.fieldLink RX5 231 "ConkerHeirs$Script" "second" "I", Cond.fieldLink RX5 234 "ConkerHeirs$Script" "swing" "I", Cond.methodLink RX5 156 yX3_take, Cond.methodLink RL 68 yX6_run, Cond.instanceMethod yX6_run, Cond.selects RX6 yX6_run yX6_run, Cond.code yX6_run cX6_run 6 (some .int), Cond.methodLink RX6 139 yX6_fault, Cond.methodLink RX6 142 yX6_orderError, Cond.instanceMethod yX6_orderError, Cond.selects RX6 yX6_orderError yX6_orderError, Cond.code yX6_orderError cX6_orderError 1 (some .int), Cond.methodLink RX6 145 yX6_does, Cond.instanceMethod yX6_does, Cond.selects RX6 yX6_does yX6_does, Cond.code yX6_does cX6_does 1 (some .int), Cond.methodLink RL 69 yX5_undo, Cond.instanceMethod yX5_undo, Cond.selects RX5 yX5_undo yX5_undo, Cond.code yX5_undo cX5_undo 1 (some .int)]
def wsL_law_r22 : List Cond := [Cond.methodLink RX5 160 yX1_bringBack, Cond.instanceMethod yX1_bringBack, Cond.selects RX1 yX1_bringBack yX1_bringBack, Cond.code yX1_bringBack cX1_bringBack 2 (some .int), Cond.methodLink RL 72 yX6_undo, Cond.instanceMethod yX6_undo, Cond.selects RX6 yX6_undo yX6_undo, Cond.code yX6_undo cX6_undo 1 (some .int), Cond.methodLink RL 73 yX5_save, Cond.instanceMethod yX5_save, Cond.selects RX5 yX5_save yX5_save, Cond.code yX5_save cX5_save 1 (some .int), Cond.methodLink RX5 164 yX4_copyFrom, Cond.methodLink RX5 167 yX4_conkersBeing, Cond.instanceMethod yX4_conkersBeing, Cond.selects RX4 yX4_conkersBeing yX4_conkersBeing, Cond.code yX4_conkersBeing cX4_conkersBeing 5 (some .int), Cond.methodLink RX4 121 yX4_isOf, Cond.instanceMethod yX4_isOf, Cond.selects RX4 yX4_isOf yX4_isOf, Cond.code yX4_isOf cX4_isOf 3 (some .boolean), Cond.methodLink RL 76 yX6_save, Cond.instanceMethod yX6_save, Cond.selects RX6 yX6_save yX6_save]
def wsL_law_r23 : List Cond := [Cond.code yX6_save cX6_save 1 (some .int), Cond.fieldLink RX6 148 "ConkerHeirsModel" "isSaved" "Z", Cond.methodLink RX6 152 yX6_conkers, Cond.instanceMethod yX6_conkers, Cond.selects RX6 yX6_conkers yX6_conkers, Cond.code yX6_conkers cX6_conkers 6 (some .int), Cond.methodLink RL 77 yX5_restore, Cond.instanceMethod yX5_restore, Cond.selects RX5 yX5_restore yX5_restore, Cond.code yX5_restore cX5_restore 1 (some .int), Cond.methodLink RL 80 yX6_restore, Cond.instanceMethod yX6_restore, Cond.selects RX6 yX6_restore yX6_restore, Cond.code yX6_restore cX6_restore 1 (some .int), Cond.methodLink RL 81 yX5_conker, Cond.instanceMethod yX5_conker, Cond.selects RX5 yX5_conker yX5_conker, Cond.code yX5_conker cX5_conker 3 (some .int), Cond.fieldLink RX5 170 "ConkerHeirs$State" "hardness" "[I", Cond.fieldLink RX5 173 "ConkerHeirs$State" "crack" "[I", Cond.fieldLink RX5 176 "ConkerHeirs$State" "wear" "[I", Cond.fieldLink RX5 179 "ConkerHeirs$State" "victories" "[I", Cond.fieldLink RX5 182 "ConkerHeirs$State" "smashedBy" "[I", Cond.methodLink RX5 185 yX4_conkersSmashedBy]
def wsL_law_r24 : List Cond := [Cond.instanceMethod yX4_conkersSmashedBy, Cond.selects RX4 yX4_conkersSmashedBy yX4_conkersSmashedBy, Cond.code yX4_conkersSmashedBy cX4_conkersSmashedBy 4 (some .int), Cond.methodLink RL 84 yX6_conker, Cond.instanceMethod yX6_conker, Cond.selects RX6 yX6_conker yX6_conker, Cond.code yX6_conker cX6_conker 3 (some .int), Cond.methodLink RX6 155 yX6_heirOf, Cond.instanceMethod yX6_heirOf, Cond.selects RX6 yX6_heirOf yX6_heirOf, Cond.code yX6_heirOf cX6_heirOf 4 (some .int), Cond.methodLink RL 85 yX5_player, Cond.instanceMethod yX5_player, Cond.selects RX5 yX5_player yX5_player, Cond.code yX5_player cX5_player 3 (some .int), Cond.fieldLink RX5 188 "ConkerHeirs$State" "shame" "[I", Cond.methodLink RX5 191 yX4_victoriesOf, Cond.instanceMethod yX4_victoriesOf, Cond.selects RX4 yX4_victoriesOf yX4_victoriesOf, Cond.code yX4_victoriesOf cX4_victoriesOf 4 (some .int), Cond.methodLink RX5 194 yX4_conkerToSend, Cond.methodLink RL 88 yX6_player, Cond.instanceMethod yX6_player, Cond.selects RX6 yX6_player yX6_player]
def wsL_law_r25 : List Cond := [Cond.code yX6_player cX6_player 3 (some .int), Cond.methodLink RX6 158 yX6_victories, Cond.instanceMethod yX6_victories, Cond.selects RX6 yX6_victories yX6_victories, Cond.code yX6_victories cX6_victories 5 (some .int), Cond.methodLink RL 89 yX5_ranked, Cond.instanceMethod yX5_ranked, Cond.selects RX5 yX5_ranked yX5_ranked, Cond.code yX5_ranked cX5_ranked 2 (some .int), Cond.methodLink RX5 197 yX4_conkerAtRank, Cond.instanceMethod yX4_conkerAtRank, Cond.selects RX4 yX4_conkerAtRank yX4_conkerAtRank, Cond.code yX4_conkerAtRank cX4_conkerAtRank 3 (some .int), Cond.methodLink RX4 124 yX4_conkersAheadOf, Cond.instanceMethod yX4_conkersAheadOf, Cond.selects RX4 yX4_conkersAheadOf yX4_conkersAheadOf, Cond.code yX4_conkersAheadOf cX4_conkersAheadOf 6 (some .int), Cond.methodLink RL 92 yX6_ranked, Cond.instanceMethod yX6_ranked, Cond.selects RX6 yX6_ranked yX6_ranked, Cond.code yX6_ranked cX6_ranked 3 (some .int), Cond.methodLink RX6 161 yX6_ahead, Cond.instanceMethod yX6_ahead, Cond.selects RX6 yX6_ahead yX6_ahead]
def wsL_law_r26 : List Cond := [Cond.code yX6_ahead cX6_ahead 6 (some .int), Cond.methodLink RL 93 yX5_line, Cond.instanceMethod yX5_line, Cond.selects RX5 yX5_line yX5_line, Cond.code yX5_line cX5_line 2 (some .int), Cond.methodLink RX5 200 yX4_lengthOfLine, Cond.instanceMethod yX4_lengthOfLine, Cond.selects RX4 yX4_lengthOfLine yX4_lengthOfLine, Cond.code yX4_lengthOfLine cX4_lengthOfLine 4 (some .int), Cond.methodLink RX4 130 yX4_isInLineOf, Cond.instanceMethod yX4_isInLineOf, Cond.selects RX4 yX4_isInLineOf yX4_isInLineOf, Cond.code yX4_isInLineOf cX4_isInLineOf 5 (some .boolean), Cond.methodLink RL 96 yX6_line, Cond.instanceMethod yX6_line, Cond.selects RX6 yX6_line yX6_line, Cond.code yX6_line cX6_line 4 (some .int), Cond.methodLink RX6 164 yX6_isInLine, Cond.instanceMethod yX6_isInLine, Cond.selects RX6 yX6_isInLine yX6_isInLine, Cond.code yX6_isInLine cX6_isInLine 5 (some .boolean), Cond.methodLink RL 97 yX5_count, Cond.instanceMethod yX5_count, Cond.selects RX5 yX5_count yX5_count]
def wsL_law_r27 : List Cond := [Cond.code yX5_count cX5_count 2 (some .int), Cond.fieldLink RX5 203 "ConkerHeirs$State" "lostVictories" "I", Cond.fieldLink RX5 206 "ConkerHeirs$State" "strikes" "I", Cond.fieldLink RX5 218 "ConkerHeirs$History" "held" "I", Cond.methodLink RX5 209 yX4_conkersWithHeir, Cond.instanceMethod yX4_conkersWithHeir, Cond.selects RX4 yX4_conkersWithHeir yX4_conkersWithHeir, Cond.code yX4_conkersWithHeir cX4_conkersWithHeir 1 (some .int), Cond.methodLink RX4 127 yX4_conkersSmashedBy, Cond.methodLink RX5 212 yX4_boastsTold, Cond.instanceMethod yX4_boastsTold, Cond.selects RX4 yX4_boastsTold yX4_boastsTold, Cond.code yX4_boastsTold cX4_boastsTold 3 (some .int), Cond.methodLink RX5 215 yX4_boastsTooHigh, Cond.instanceMethod yX4_boastsTooHigh, Cond.selects RX4 yX4_boastsTooHigh yX4_boastsTooHigh, Cond.code yX4_boastsTooHigh cX4_boastsTooHigh 3 (some .int), Cond.methodLink RL 100 yX6_count, Cond.instanceMethod yX6_count, Cond.selects RX6 yX6_count yX6_count, Cond.code yX6_count cX6_count 2 (some .int), Cond.methodLink RX6 167 yX6_boasts, Cond.instanceMethod yX6_boasts, Cond.selects RX6 yX6_boasts yX6_boasts]
def wsL_law_r28 : List Cond := [Cond.code yX6_boasts cX6_boasts 5 (some .int), Cond.methodLink RL 101 yX5_ifStruck, Cond.instanceMethod yX5_ifStruck, Cond.selects RX5 yX5_ifStruck yX5_ifStruck, Cond.code yX5_ifStruck cX5_ifStruck 5 (some .int), Cond.methodLink RX5 221 yX5_tryHit, Cond.instanceMethod yX5_tryHit, Cond.selects RX5 yX5_tryHit yX5_tryHit, Cond.code yX5_tryHit cX5_tryHit 4 (some .int), Cond.methodLink RL 104 yX6_ifStruck, Cond.instanceMethod yX6_ifStruck, Cond.selects RX6 yX6_ifStruck yX6_ifStruck, Cond.code yX6_ifStruck cX6_ifStruck 5 (some .int), Cond.methodLink RL 105 yX5_leastSwing, Cond.instanceMethod yX5_leastSwing, Cond.selects RX5 yX5_leastSwing yX5_leastSwing, Cond.code yX5_leastSwing cX5_leastSwing 6 (some .int), Cond.methodLink RL 108 yX6_leastSwing, Cond.instanceMethod yX6_leastSwing, Cond.selects RX6 yX6_leastSwing yX6_leastSwing, Cond.code yX6_leastSwing cX6_leastSwing 5 (some .int), Cond.methodLink RL 109 yX5_winner, Cond.instanceMethod yX5_winner, Cond.selects RX5 yX5_winner yX5_winner]
def wsL_law_r29 : List Cond := [Cond.code yX5_winner cX5_winner 7 (some .int), Cond.methodLink RL 112 yX6_winner, Cond.instanceMethod yX6_winner, Cond.selects RX6 yX6_winner yX6_winner, Cond.code yX6_winner cX6_winner 8 (some .int), Cond.methodLink RL 113 yX5_share, Cond.instanceMethod yX5_share, Cond.selects RX5 yX5_share yX5_share, Cond.code yX5_share cX5_share 3 (some .float), Cond.methodLink RL 117 yX6_share, Cond.instanceMethod yX6_share, Cond.selects RX6 yX6_share yX6_share, Cond.code yX6_share cX6_share 3 (some .float)]
def wsL_law : List Cond := (wsL_law_r1 ++ (wsL_law_r2 ++ (wsL_law_r3 ++ (wsL_law_r4 ++ (wsL_law_r5 ++ (wsL_law_r6 ++ (wsL_law_r7 ++ (wsL_law_r8 ++ (wsL_law_r9 ++ (wsL_law_r10 ++ (wsL_law_r11 ++ (wsL_law_r12 ++ (wsL_law_r13 ++ (wsL_law_r14 ++ (wsL_law_r15 ++ (wsL_law_r16 ++ (wsL_law_r17 ++ (wsL_law_r18 ++ (wsL_law_r19 ++ (wsL_law_r20 ++ (wsL_law_r21 ++ (wsL_law_r22 ++ (wsL_law_r23 ++ (wsL_law_r24 ++ (wsL_law_r25 ++ (wsL_law_r26 ++ (wsL_law_r27 ++ (wsL_law_r28 ++ wsL_law_r29)))))))))))))))))))))))))))) ++ wsX50 ++ wsX60 ++ wsX40 ++ wsX10 ++ wsX30 ++ wsX00 ++ wsX20 ++ ([] : List Cond)
theorem inlX0 : ∀ w ∈ wsX00, w ∈ wsL_law := fun _ h => List.mem_append_left _ (List.mem_append_left _ (List.mem_append_right _ h))
theorem inlX1 : ∀ w ∈ wsX10, w ∈ wsL_law := fun _ h => List.mem_append_left _ (List.mem_append_left _ (List.mem_append_left _ (List.mem_append_left _ (List.mem_append_right _ h))))
theorem inlX2 : ∀ w ∈ wsX20, w ∈ wsL_law := fun _ h => List.mem_append_left _ (List.mem_append_right _ h)
theorem inlX3 : ∀ w ∈ wsX30, w ∈ wsL_law := fun _ h => List.mem_append_left _ (List.mem_append_left _ (List.mem_append_left _ (List.mem_append_right _ h)))
theorem inlX4 : ∀ w ∈ wsX40, w ∈ wsL_law := fun _ h => List.mem_append_left _ (List.mem_append_left _ (List.mem_append_left _ (List.mem_append_left _ (List.mem_append_left _ (List.mem_append_right _ h)))))
theorem inlX5 : ∀ w ∈ wsX50, w ∈ wsL_law := fun _ h => List.mem_append_left _ (List.mem_append_left _ (List.mem_append_left _ (List.mem_append_left _ (List.mem_append_left _ (List.mem_append_left _ (List.mem_append_left _ (List.mem_append_right _ h)))))))
theorem inlX6 : ∀ w ∈ wsX60, w ∈ wsL_law := fun _ h => List.mem_append_left _ (List.mem_append_left _ (List.mem_append_left _ (List.mem_append_left _ (List.mem_append_left _ (List.mem_append_left _ (List.mem_append_right _ h))))))
theorem inJ9 : ∀ w ∈ wsJ90, w ∈ lw_tbl := by decide +kernel
theorem inJ10 : ∀ w ∈ wsJ100, w ∈ lw_tbl := by decide +kernel
theorem dX0_init_0 : decode cX0_init 0 = .ok (.aload_n 0, 1) := by decide +kernel
theorem dX0_init_1 : decode cX0_init 1 = .ok (.invokespecial 1, 3) := by decide +kernel
theorem dX0_init_4 : decode cX0_init 4 = .ok (.aload_n 0, 1) := by decide +kernel
theorem dX0_init_5 : decode cX0_init 5 = .ok (.iconst 0, 1) := by decide +kernel
theorem dX0_init_6 : decode cX0_init 6 = .ok (.putfield 7, 3) := by decide +kernel
theorem dX0_init_9 : decode cX0_init 9 = .ok (.return_, 1) := by decide +kernel
theorem dX0_begin_0 : decode cX0_begin 0 = .ok (.aload_n 0, 1) := by decide +kernel
theorem dX0_begin_1 : decode cX0_begin 1 = .ok (.iload_n 1, 1) := by decide +kernel
theorem dX0_begin_2 : decode cX0_begin 2 = .ok (.putfield 7, 3) := by decide +kernel
theorem dX0_begin_5 : decode cX0_begin 5 = .ok (.return_, 1) := by decide +kernel
theorem dX0_next_0 : decode cX0_next 0 = .ok (.aload_n 0, 1) := by decide +kernel
theorem dX0_next_1 : decode cX0_next 1 = .ok (.sipush 25173, 3) := by decide +kernel
theorem dX0_next_4 : decode cX0_next 4 = .ok (.aload_n 0, 1) := by decide +kernel
theorem dX0_next_5 : decode cX0_next 5 = .ok (.getfield 7, 3) := by decide +kernel
theorem dX0_next_8 : decode cX0_next 8 = .ok (.imul, 1) := by decide +kernel
theorem dX0_next_9 : decode cX0_next 9 = .ok (.sipush 13849, 3) := by decide +kernel
theorem dX0_next_12 : decode cX0_next 12 = .ok (.iadd, 1) := by decide +kernel
theorem dX0_next_13 : decode cX0_next 13 = .ok (.ldc 13, 2) := by decide +kernel
theorem dX0_next_15 : decode cX0_next 15 = .ok (.irem, 1) := by decide +kernel
theorem dX0_next_16 : decode cX0_next 16 = .ok (.putfield 7, 3) := by decide +kernel
theorem dX0_next_19 : decode cX0_next 19 = .ok (.aload_n 0, 1) := by decide +kernel
theorem dX0_next_20 : decode cX0_next 20 = .ok (.getfield 7, 3) := by decide +kernel
theorem dX0_next_23 : decode cX0_next 23 = .ok (.ireturn, 1) := by decide +kernel
set_option maxRecDepth 20000 in
theorem ggX0_swing_X0_next : GoodIn wsX0_swing wsX0_next := goodIn_r _ [5, 6, 7, 8] (by decide +kernel) (by decide +kernel)
set_option maxRecDepth 20000 in
theorem gX0_swing_X0_next : GoodIn wsX0_swing (wsV RX0 14 RX0 yX0_next wsX0_next) := goodIn_app (goodIn_of _ (by decide +kernel)) ggX0_swing_X0_next
theorem dX0_swing_0 : decode cX0_swing 0 = .ok (.iconst 1, 1) := by decide +kernel
theorem dX0_swing_1 : decode cX0_swing 1 = .ok (.aload_n 0, 1) := by decide +kernel
theorem dX0_swing_2 : decode cX0_swing 2 = .ok (.invokevirtual 14, 3) := by decide +kernel
theorem dX0_swing_5 : decode cX0_swing 5 = .ok (.sipush 7282, 3) := by decide +kernel
theorem dX0_swing_8 : decode cX0_swing 8 = .ok (.idiv, 1) := by decide +kernel
theorem dX0_swing_9 : decode cX0_swing 9 = .ok (.iadd, 1) := by decide +kernel
theorem dX0_swing_10 : decode cX0_swing 10 = .ok (.ireturn, 1) := by decide +kernel
set_option maxRecDepth 20000 in
theorem ggX1_init_X4_init : GoodIn wsX1_init wsX4_init := goodIn_r _ [11, 12, 2, 3, 13, 14, 15, 16, 17, 18, 19, 20, 21, 22, 23, 24, 25, 26, 29, 30, 31, 32, 33, 34, 35, 36, 37, 38, 39, 40, 41] (by decide +kernel) (by decide +kernel)
set_option maxRecDepth 20000 in
theorem gX1_init_X4_init : GoodIn wsX1_init (wsX4_init) := ggX1_init_X4_init
theorem dX1_init_0 : decode cX1_init 0 = .ok (.aload_n 0, 1) := by decide +kernel
theorem dX1_init_1 : decode cX1_init 1 = .ok (.invokespecial 3, 3) := by decide +kernel
theorem dX1_init_4 : decode cX1_init 4 = .ok (.aload_n 0, 1) := by decide +kernel
theorem dX1_init_5 : decode cX1_init 5 = .ok (.iconst 5, 1) := by decide +kernel
theorem dX1_init_6 : decode cX1_init 6 = .ok (.anewarray 9, 3) := by decide +kernel
theorem dX1_init_9 : decode cX1_init 9 = .ok (.putfield 11, 3) := by decide +kernel
theorem dX1_init_12 : decode cX1_init 12 = .ok (.aload_n 0, 1) := by decide +kernel
theorem dX1_init_13 : decode cX1_init 13 = .ok (.iconst 0, 1) := by decide +kernel
theorem dX1_init_14 : decode cX1_init 14 = .ok (.putfield 17, 3) := by decide +kernel
theorem dX1_init_17 : decode cX1_init 17 = .ok (.iconst 0, 1) := by decide +kernel
theorem dX1_init_18 : decode cX1_init 18 = .ok (.istore_n 1, 1) := by decide +kernel
theorem dX1_init_19 : decode cX1_init 19 = .ok (.iload_n 1, 1) := by decide +kernel
theorem dX1_init_20 : decode cX1_init 20 = .ok (.iconst 5, 1) := by decide +kernel
theorem dX1_init_21 : decode cX1_init 21 = .ok (.if_icmp .ge 22, 3) := by decide +kernel
theorem dX1_init_24 : decode cX1_init 24 = .ok (.aload_n 0, 1) := by decide +kernel
theorem dX1_init_25 : decode cX1_init 25 = .ok (.getfield 11, 3) := by decide +kernel
theorem dX1_init_28 : decode cX1_init 28 = .ok (.iload_n 1, 1) := by decide +kernel
theorem dX1_init_29 : decode cX1_init 29 = .ok (.new 9, 3) := by decide +kernel
theorem dX1_init_32 : decode cX1_init 32 = .ok (.dup, 1) := by decide +kernel
theorem dX1_init_33 : decode cX1_init 33 = .ok (.invokespecial 21, 3) := by decide +kernel
theorem dX1_init_36 : decode cX1_init 36 = .ok (.aastore, 1) := by decide +kernel
theorem dX1_init_37 : decode cX1_init 37 = .ok (.iinc 1 1, 3) := by decide +kernel
theorem dX1_init_40 : decode cX1_init 40 = .ok (.goto (-21), 3) := by decide +kernel
theorem dX1_init_43 : decode cX1_init 43 = .ok (.return_, 1) := by decide +kernel
set_option maxRecDepth 20000 in
theorem ggX1_keep_X1_dropOldest : GoodIn wsX1_keep wsX1_dropOldest := goodIn_r _ [7, 2, 1, 30, 31] (by decide +kernel) (by decide +kernel)
set_option maxRecDepth 20000 in
theorem gX1_keep_X1_dropOldest : GoodIn wsX1_keep (wsV RX1 22 RX1 yX1_dropOldest wsX1_dropOldest) := goodIn_app (goodIn_of _ (by decide +kernel)) ggX1_keep_X1_dropOldest
set_option maxRecDepth 20000 in
theorem ggX1_keep_X4_copyFrom : GoodIn wsX1_keep wsX4_copyFrom := goodIn_r _ [12, 13, 14, 15, 16, 17, 18, 19, 20, 21, 22, 23, 24, 25, 26, 27, 28, 29, 32, 33, 34, 35, 36, 37, 38, 39, 40, 41, 42, 43, 44] (by decide +kernel) (by decide +kernel)
set_option maxRecDepth 20000 in
theorem gX1_keep_X4_copyFrom : GoodIn wsX1_keep (wsV RX1 25 RX4 yX4_copyFrom wsX4_copyFrom) := goodIn_app (goodIn_of _ (by decide +kernel)) ggX1_keep_X4_copyFrom
theorem dX1_keep_0 : decode cX1_keep 0 = .ok (.aload_n 0, 1) := by decide +kernel
theorem dX1_keep_1 : decode cX1_keep 1 = .ok (.getfield 17, 3) := by decide +kernel
theorem dX1_keep_4 : decode cX1_keep 4 = .ok (.iconst 5, 1) := by decide +kernel
theorem dX1_keep_5 : decode cX1_keep 5 = .ok (.if_icmp .lt 7, 3) := by decide +kernel
theorem dX1_keep_8 : decode cX1_keep 8 = .ok (.aload_n 0, 1) := by decide +kernel
theorem dX1_keep_9 : decode cX1_keep 9 = .ok (.invokevirtual 22, 3) := by decide +kernel
theorem dX1_keep_12 : decode cX1_keep 12 = .ok (.aload_n 0, 1) := by decide +kernel
theorem dX1_keep_13 : decode cX1_keep 13 = .ok (.getfield 11, 3) := by decide +kernel
theorem dX1_keep_16 : decode cX1_keep 16 = .ok (.aload_n 0, 1) := by decide +kernel
theorem dX1_keep_17 : decode cX1_keep 17 = .ok (.getfield 17, 3) := by decide +kernel
theorem dX1_keep_20 : decode cX1_keep 20 = .ok (.aaload, 1) := by decide +kernel
theorem dX1_keep_21 : decode cX1_keep 21 = .ok (.aload_n 1, 1) := by decide +kernel
theorem dX1_keep_22 : decode cX1_keep 22 = .ok (.invokevirtual 25, 3) := by decide +kernel
theorem dX1_keep_25 : decode cX1_keep 25 = .ok (.aload_n 0, 1) := by decide +kernel
theorem dX1_keep_26 : decode cX1_keep 26 = .ok (.dup, 1) := by decide +kernel
theorem dX1_keep_27 : decode cX1_keep 27 = .ok (.getfield 17, 3) := by decide +kernel
theorem dX1_keep_30 : decode cX1_keep 30 = .ok (.iconst 1, 1) := by decide +kernel
theorem dX1_keep_31 : decode cX1_keep 31 = .ok (.iadd, 1) := by decide +kernel
theorem dX1_keep_32 : decode cX1_keep 32 = .ok (.putfield 17, 3) := by decide +kernel
theorem dX1_keep_35 : decode cX1_keep 35 = .ok (.return_, 1) := by decide +kernel
set_option maxRecDepth 20000 in
theorem ggX1_bringBack_X4_copyFrom : GoodIn wsX1_bringBack wsX4_copyFrom := goodIn_r _ [7, 8, 9, 10, 11, 12, 13, 14, 15, 16, 17, 18, 19, 20, 21, 22, 23, 24, 27, 28, 29, 30, 31, 32, 33, 34, 35, 36, 37, 38, 39] (by decide +kernel) (by decide +kernel)
set_option maxRecDepth 20000 in
theorem gX1_bringBack_X4_copyFrom : GoodIn wsX1_bringBack (wsV RX1 25 RX4 yX4_copyFrom wsX4_copyFrom) := goodIn_app (goodIn_of _ (by decide +kernel)) ggX1_bringBack_X4_copyFrom
theorem dX1_bringBack_0 : decode cX1_bringBack 0 = .ok (.aload_n 0, 1) := by decide +kernel
theorem dX1_bringBack_1 : decode cX1_bringBack 1 = .ok (.getfield 17, 3) := by decide +kernel
theorem dX1_bringBack_4 : decode cX1_bringBack 4 = .ok (.iconst 1, 1) := by decide +kernel
theorem dX1_bringBack_5 : decode cX1_bringBack 5 = .ok (.if_icmp .ge 6, 3) := by decide +kernel
theorem dX1_bringBack_8 : decode cX1_bringBack 8 = .ok (.bipush (-5), 2) := by decide +kernel
theorem dX1_bringBack_10 : decode cX1_bringBack 10 = .ok (.ireturn, 1) := by decide +kernel
theorem dX1_bringBack_11 : decode cX1_bringBack 11 = .ok (.aload_n 0, 1) := by decide +kernel
theorem dX1_bringBack_12 : decode cX1_bringBack 12 = .ok (.dup, 1) := by decide +kernel
theorem dX1_bringBack_13 : decode cX1_bringBack 13 = .ok (.getfield 17, 3) := by decide +kernel
theorem dX1_bringBack_16 : decode cX1_bringBack 16 = .ok (.iconst 1, 1) := by decide +kernel
theorem dX1_bringBack_17 : decode cX1_bringBack 17 = .ok (.isub, 1) := by decide +kernel
theorem dX1_bringBack_18 : decode cX1_bringBack 18 = .ok (.putfield 17, 3) := by decide +kernel
theorem dX1_bringBack_21 : decode cX1_bringBack 21 = .ok (.aload_n 1, 1) := by decide +kernel
theorem dX1_bringBack_22 : decode cX1_bringBack 22 = .ok (.aload_n 0, 1) := by decide +kernel
theorem dX1_bringBack_23 : decode cX1_bringBack 23 = .ok (.getfield 11, 3) := by decide +kernel
theorem dX1_bringBack_26 : decode cX1_bringBack 26 = .ok (.aload_n 0, 1) := by decide +kernel
theorem dX1_bringBack_27 : decode cX1_bringBack 27 = .ok (.getfield 17, 3) := by decide +kernel
theorem dX1_bringBack_30 : decode cX1_bringBack 30 = .ok (.aaload, 1) := by decide +kernel
theorem dX1_bringBack_31 : decode cX1_bringBack 31 = .ok (.invokevirtual 25, 3) := by decide +kernel
theorem dX1_bringBack_34 : decode cX1_bringBack 34 = .ok (.aload_n 0, 1) := by decide +kernel
theorem dX1_bringBack_35 : decode cX1_bringBack 35 = .ok (.getfield 17, 3) := by decide +kernel
theorem dX1_bringBack_38 : decode cX1_bringBack 38 = .ok (.ireturn, 1) := by decide +kernel
theorem dX1_dropOldest_0 : decode cX1_dropOldest 0 = .ok (.aload_n 0, 1) := by decide +kernel
theorem dX1_dropOldest_1 : decode cX1_dropOldest 1 = .ok (.getfield 11, 3) := by decide +kernel
theorem dX1_dropOldest_4 : decode cX1_dropOldest 4 = .ok (.iconst 0, 1) := by decide +kernel
theorem dX1_dropOldest_5 : decode cX1_dropOldest 5 = .ok (.aaload, 1) := by decide +kernel
theorem dX1_dropOldest_6 : decode cX1_dropOldest 6 = .ok (.astore_n 1, 1) := by decide +kernel
theorem dX1_dropOldest_7 : decode cX1_dropOldest 7 = .ok (.iconst 1, 1) := by decide +kernel
theorem dX1_dropOldest_8 : decode cX1_dropOldest 8 = .ok (.istore_n 2, 1) := by decide +kernel
theorem dX1_dropOldest_9 : decode cX1_dropOldest 9 = .ok (.iload_n 2, 1) := by decide +kernel
theorem dX1_dropOldest_10 : decode cX1_dropOldest 10 = .ok (.iconst 5, 1) := by decide +kernel
theorem dX1_dropOldest_11 : decode cX1_dropOldest 11 = .ok (.if_icmp .ge 23, 3) := by decide +kernel
theorem dX1_dropOldest_14 : decode cX1_dropOldest 14 = .ok (.aload_n 0, 1) := by decide +kernel
theorem dX1_dropOldest_15 : decode cX1_dropOldest 15 = .ok (.getfield 11, 3) := by decide +kernel
theorem dX1_dropOldest_18 : decode cX1_dropOldest 18 = .ok (.iload_n 2, 1) := by decide +kernel
theorem dX1_dropOldest_19 : decode cX1_dropOldest 19 = .ok (.iconst 1, 1) := by decide +kernel
theorem dX1_dropOldest_20 : decode cX1_dropOldest 20 = .ok (.isub, 1) := by decide +kernel
theorem dX1_dropOldest_21 : decode cX1_dropOldest 21 = .ok (.aload_n 0, 1) := by decide +kernel
theorem dX1_dropOldest_22 : decode cX1_dropOldest 22 = .ok (.getfield 11, 3) := by decide +kernel
theorem dX1_dropOldest_25 : decode cX1_dropOldest 25 = .ok (.iload_n 2, 1) := by decide +kernel
theorem dX1_dropOldest_26 : decode cX1_dropOldest 26 = .ok (.aaload, 1) := by decide +kernel
theorem dX1_dropOldest_27 : decode cX1_dropOldest 27 = .ok (.aastore, 1) := by decide +kernel
theorem dX1_dropOldest_28 : decode cX1_dropOldest 28 = .ok (.iinc 2 1, 3) := by decide +kernel
theorem dX1_dropOldest_31 : decode cX1_dropOldest 31 = .ok (.goto (-22), 3) := by decide +kernel
theorem dX1_dropOldest_34 : decode cX1_dropOldest 34 = .ok (.aload_n 0, 1) := by decide +kernel
theorem dX1_dropOldest_35 : decode cX1_dropOldest 35 = .ok (.getfield 11, 3) := by decide +kernel
theorem dX1_dropOldest_38 : decode cX1_dropOldest 38 = .ok (.iconst 4, 1) := by decide +kernel
theorem dX1_dropOldest_39 : decode cX1_dropOldest 39 = .ok (.aload_n 1, 1) := by decide +kernel
theorem dX1_dropOldest_40 : decode cX1_dropOldest 40 = .ok (.aastore, 1) := by decide +kernel
theorem dX1_dropOldest_41 : decode cX1_dropOldest 41 = .ok (.aload_n 0, 1) := by decide +kernel
theorem dX1_dropOldest_42 : decode cX1_dropOldest 42 = .ok (.dup, 1) := by decide +kernel
theorem dX1_dropOldest_43 : decode cX1_dropOldest 43 = .ok (.getfield 17, 3) := by decide +kernel
theorem dX1_dropOldest_46 : decode cX1_dropOldest 46 = .ok (.iconst 1, 1) := by decide +kernel
theorem dX1_dropOldest_47 : decode cX1_dropOldest 47 = .ok (.isub, 1) := by decide +kernel
theorem dX1_dropOldest_48 : decode cX1_dropOldest 48 = .ok (.putfield 17, 3) := by decide +kernel
theorem dX1_dropOldest_51 : decode cX1_dropOldest 51 = .ok (.return_, 1) := by decide +kernel
theorem dX2_init_0 : decode cX2_init 0 = .ok (.aload_n 0, 1) := by decide +kernel
theorem dX2_init_1 : decode cX2_init 1 = .ok (.invokespecial 3, 3) := by decide +kernel
theorem dX2_init_4 : decode cX2_init 4 = .ok (.aload_n 0, 1) := by decide +kernel
theorem dX2_init_5 : decode cX2_init 5 = .ok (.bipush 6, 2) := by decide +kernel
theorem dX2_init_7 : decode cX2_init 7 = .ok (.newarray .int, 2) := by decide +kernel
theorem dX2_init_9 : decode cX2_init 9 = .ok (.putfield 9, 3) := by decide +kernel
theorem dX2_init_12 : decode cX2_init 12 = .ok (.aload_n 0, 1) := by decide +kernel
theorem dX2_init_13 : decode cX2_init 13 = .ok (.iconst 0, 1) := by decide +kernel
theorem dX2_init_14 : decode cX2_init 14 = .ok (.putfield 15, 3) := by decide +kernel
theorem dX2_init_17 : decode cX2_init 17 = .ok (.return_, 1) := by decide +kernel
set_option maxRecDepth 20000 in
theorem ggX2_lineUp_X4_conkerToSend : GoodIn wsX2_lineUp wsX4_conkerToSend := goodIn_r _ [6, 7, 8, 9, 10, 21, 22, 23, 24, 25, 26, 27, 28, 29, 30, 31, 32, 33] (by decide +kernel) (by decide +kernel)
set_option maxRecDepth 20000 in
theorem gX2_lineUp_X4_conkerToSend : GoodIn wsX2_lineUp (wsV RX2 19 RX4 yX4_conkerToSend wsX4_conkerToSend) := goodIn_app (goodIn_of _ (by decide +kernel)) ggX2_lineUp_X4_conkerToSend
set_option maxRecDepth 20000 in
theorem ggX2_lineUp_X2_insert : GoodIn wsX2_lineUp wsX2_insert := goodIn_r _ [15, 16, 17, 1, 18, 21, 22, 23, 24, 25, 26, 27, 28, 29, 30, 31, 32, 33, 19, 20] (by decide +kernel) (by decide +kernel)
set_option maxRecDepth 20000 in
theorem gX2_lineUp_X2_insert : GoodIn wsX2_lineUp (wsV RX2 25 RX2 yX2_insert wsX2_insert) := goodIn_app (goodIn_of _ (by decide +kernel)) ggX2_lineUp_X2_insert
theorem dX2_lineUp_0 : decode cX2_lineUp 0 = .ok (.aload_n 0, 1) := by decide +kernel
theorem dX2_lineUp_1 : decode cX2_lineUp 1 = .ok (.iconst 0, 1) := by decide +kernel
theorem dX2_lineUp_2 : decode cX2_lineUp 2 = .ok (.putfield 15, 3) := by decide +kernel
theorem dX2_lineUp_5 : decode cX2_lineUp 5 = .ok (.iconst 0, 1) := by decide +kernel
theorem dX2_lineUp_6 : decode cX2_lineUp 6 = .ok (.istore_n 2, 1) := by decide +kernel
theorem dX2_lineUp_7 : decode cX2_lineUp 7 = .ok (.iload_n 2, 1) := by decide +kernel
theorem dX2_lineUp_8 : decode cX2_lineUp 8 = .ok (.bipush 6, 2) := by decide +kernel
theorem dX2_lineUp_10 : decode cX2_lineUp 10 = .ok (.if_icmp .ge 25, 3) := by decide +kernel
theorem dX2_lineUp_13 : decode cX2_lineUp 13 = .ok (.aload_n 1, 1) := by decide +kernel
theorem dX2_lineUp_14 : decode cX2_lineUp 14 = .ok (.iload_n 2, 1) := by decide +kernel
theorem dX2_lineUp_15 : decode cX2_lineUp 15 = .ok (.invokevirtual 19, 3) := by decide +kernel
theorem dX2_lineUp_18 : decode cX2_lineUp 18 = .ok (.istore_n 3, 1) := by decide +kernel
theorem dX2_lineUp_19 : decode cX2_lineUp 19 = .ok (.iload_n 3, 1) := by decide +kernel
theorem dX2_lineUp_20 : decode cX2_lineUp 20 = .ok (.ifCond .lt 9, 3) := by decide +kernel
theorem dX2_lineUp_23 : decode cX2_lineUp 23 = .ok (.aload_n 0, 1) := by decide +kernel
theorem dX2_lineUp_24 : decode cX2_lineUp 24 = .ok (.iload_n 3, 1) := by decide +kernel
theorem dX2_lineUp_25 : decode cX2_lineUp 25 = .ok (.aload_n 1, 1) := by decide +kernel
theorem dX2_lineUp_26 : decode cX2_lineUp 26 = .ok (.invokevirtual 25, 3) := by decide +kernel
theorem dX2_lineUp_29 : decode cX2_lineUp 29 = .ok (.iinc 2 1, 3) := by decide +kernel
theorem dX2_lineUp_32 : decode cX2_lineUp 32 = .ok (.goto (-25), 3) := by decide +kernel
theorem dX2_lineUp_35 : decode cX2_lineUp 35 = .ok (.return_, 1) := by decide +kernel
theorem dX2_insert_0 : decode cX2_insert 0 = .ok (.aload_n 2, 1) := by decide +kernel
theorem dX2_insert_1 : decode cX2_insert 1 = .ok (.getfield 29, 3) := by decide +kernel
theorem dX2_insert_4 : decode cX2_insert 4 = .ok (.aload_n 2, 1) := by decide +kernel
theorem dX2_insert_5 : decode cX2_insert 5 = .ok (.getfield 32, 3) := by decide +kernel
theorem dX2_insert_8 : decode cX2_insert 8 = .ok (.iload_n 1, 1) := by decide +kernel
theorem dX2_insert_9 : decode cX2_insert 9 = .ok (.iaload, 1) := by decide +kernel
theorem dX2_insert_10 : decode cX2_insert 10 = .ok (.iaload, 1) := by decide +kernel
theorem dX2_insert_11 : decode cX2_insert 11 = .ok (.istore_n 3, 1) := by decide +kernel
theorem dX2_insert_12 : decode cX2_insert 12 = .ok (.aload_n 0, 1) := by decide +kernel
theorem dX2_insert_13 : decode cX2_insert 13 = .ok (.getfield 15, 3) := by decide +kernel
theorem dX2_insert_16 : decode cX2_insert 16 = .ok (.istore 4, 2) := by decide +kernel
theorem dX2_insert_18 : decode cX2_insert 18 = .ok (.iload 4, 2) := by decide +kernel
theorem dX2_insert_20 : decode cX2_insert 20 = .ok (.ifCond .le 48, 3) := by decide +kernel
theorem dX2_insert_23 : decode cX2_insert 23 = .ok (.aload_n 2, 1) := by decide +kernel
theorem dX2_insert_24 : decode cX2_insert 24 = .ok (.getfield 29, 3) := by decide +kernel
theorem dX2_insert_27 : decode cX2_insert 27 = .ok (.aload_n 2, 1) := by decide +kernel
theorem dX2_insert_28 : decode cX2_insert 28 = .ok (.getfield 32, 3) := by decide +kernel
theorem dX2_insert_31 : decode cX2_insert 31 = .ok (.aload_n 0, 1) := by decide +kernel
theorem dX2_insert_32 : decode cX2_insert 32 = .ok (.getfield 9, 3) := by decide +kernel
theorem dX2_insert_35 : decode cX2_insert 35 = .ok (.iload 4, 2) := by decide +kernel
theorem dX2_insert_37 : decode cX2_insert 37 = .ok (.iconst 1, 1) := by decide +kernel
theorem dX2_insert_38 : decode cX2_insert 38 = .ok (.isub, 1) := by decide +kernel
theorem dX2_insert_39 : decode cX2_insert 39 = .ok (.iaload, 1) := by decide +kernel
theorem dX2_insert_40 : decode cX2_insert 40 = .ok (.iaload, 1) := by decide +kernel
theorem dX2_insert_41 : decode cX2_insert 41 = .ok (.iaload, 1) := by decide +kernel
theorem dX2_insert_42 : decode cX2_insert 42 = .ok (.iload_n 3, 1) := by decide +kernel
theorem dX2_insert_43 : decode cX2_insert 43 = .ok (.if_icmp .le 25, 3) := by decide +kernel
theorem dX2_insert_46 : decode cX2_insert 46 = .ok (.aload_n 0, 1) := by decide +kernel
theorem dX2_insert_47 : decode cX2_insert 47 = .ok (.getfield 9, 3) := by decide +kernel
theorem dX2_insert_50 : decode cX2_insert 50 = .ok (.iload 4, 2) := by decide +kernel
theorem dX2_insert_52 : decode cX2_insert 52 = .ok (.aload_n 0, 1) := by decide +kernel
theorem dX2_insert_53 : decode cX2_insert 53 = .ok (.getfield 9, 3) := by decide +kernel
theorem dX2_insert_56 : decode cX2_insert 56 = .ok (.iload 4, 2) := by decide +kernel
theorem dX2_insert_58 : decode cX2_insert 58 = .ok (.iconst 1, 1) := by decide +kernel
theorem dX2_insert_59 : decode cX2_insert 59 = .ok (.isub, 1) := by decide +kernel
theorem dX2_insert_60 : decode cX2_insert 60 = .ok (.iaload, 1) := by decide +kernel
theorem dX2_insert_61 : decode cX2_insert 61 = .ok (.iastore, 1) := by decide +kernel
theorem dX2_insert_62 : decode cX2_insert 62 = .ok (.iinc 4 (-1), 3) := by decide +kernel
theorem dX2_insert_65 : decode cX2_insert 65 = .ok (.goto (-47), 3) := by decide +kernel
theorem dX2_insert_68 : decode cX2_insert 68 = .ok (.aload_n 0, 1) := by decide +kernel
theorem dX2_insert_69 : decode cX2_insert 69 = .ok (.getfield 9, 3) := by decide +kernel
theorem dX2_insert_72 : decode cX2_insert 72 = .ok (.iload 4, 2) := by decide +kernel
theorem dX2_insert_74 : decode cX2_insert 74 = .ok (.iload_n 1, 1) := by decide +kernel
theorem dX2_insert_75 : decode cX2_insert 75 = .ok (.iastore, 1) := by decide +kernel
theorem dX2_insert_76 : decode cX2_insert 76 = .ok (.aload_n 0, 1) := by decide +kernel
theorem dX2_insert_77 : decode cX2_insert 77 = .ok (.dup, 1) := by decide +kernel
theorem dX2_insert_78 : decode cX2_insert 78 = .ok (.getfield 15, 3) := by decide +kernel
theorem dX2_insert_81 : decode cX2_insert 81 = .ok (.iconst 1, 1) := by decide +kernel
theorem dX2_insert_82 : decode cX2_insert 82 = .ok (.iadd, 1) := by decide +kernel
theorem dX2_insert_83 : decode cX2_insert 83 = .ok (.putfield 15, 3) := by decide +kernel
theorem dX2_insert_86 : decode cX2_insert 86 = .ok (.return_, 1) := by decide +kernel
theorem dX2_takeOut_0 : decode cX2_takeOut 0 = .ok (.aload_n 0, 1) := by decide +kernel
theorem dX2_takeOut_1 : decode cX2_takeOut 1 = .ok (.getfield 9, 3) := by decide +kernel
theorem dX2_takeOut_4 : decode cX2_takeOut 4 = .ok (.iload_n 1, 1) := by decide +kernel
theorem dX2_takeOut_5 : decode cX2_takeOut 5 = .ok (.iaload, 1) := by decide +kernel
theorem dX2_takeOut_6 : decode cX2_takeOut 6 = .ok (.istore_n 2, 1) := by decide +kernel
theorem dX2_takeOut_7 : decode cX2_takeOut 7 = .ok (.iload_n 1, 1) := by decide +kernel
theorem dX2_takeOut_8 : decode cX2_takeOut 8 = .ok (.iconst 1, 1) := by decide +kernel
theorem dX2_takeOut_9 : decode cX2_takeOut 9 = .ok (.iadd, 1) := by decide +kernel
theorem dX2_takeOut_10 : decode cX2_takeOut 10 = .ok (.istore_n 3, 1) := by decide +kernel
theorem dX2_takeOut_11 : decode cX2_takeOut 11 = .ok (.iload_n 3, 1) := by decide +kernel
theorem dX2_takeOut_12 : decode cX2_takeOut 12 = .ok (.aload_n 0, 1) := by decide +kernel
theorem dX2_takeOut_13 : decode cX2_takeOut 13 = .ok (.getfield 15, 3) := by decide +kernel
theorem dX2_takeOut_16 : decode cX2_takeOut 16 = .ok (.if_icmp .ge 23, 3) := by decide +kernel
theorem dX2_takeOut_19 : decode cX2_takeOut 19 = .ok (.aload_n 0, 1) := by decide +kernel
theorem dX2_takeOut_20 : decode cX2_takeOut 20 = .ok (.getfield 9, 3) := by decide +kernel
theorem dX2_takeOut_23 : decode cX2_takeOut 23 = .ok (.iload_n 3, 1) := by decide +kernel
theorem dX2_takeOut_24 : decode cX2_takeOut 24 = .ok (.iconst 1, 1) := by decide +kernel
theorem dX2_takeOut_25 : decode cX2_takeOut 25 = .ok (.isub, 1) := by decide +kernel
theorem dX2_takeOut_26 : decode cX2_takeOut 26 = .ok (.aload_n 0, 1) := by decide +kernel
theorem dX2_takeOut_27 : decode cX2_takeOut 27 = .ok (.getfield 9, 3) := by decide +kernel
theorem dX2_takeOut_30 : decode cX2_takeOut 30 = .ok (.iload_n 3, 1) := by decide +kernel
theorem dX2_takeOut_31 : decode cX2_takeOut 31 = .ok (.iaload, 1) := by decide +kernel
theorem dX2_takeOut_32 : decode cX2_takeOut 32 = .ok (.iastore, 1) := by decide +kernel
theorem dX2_takeOut_33 : decode cX2_takeOut 33 = .ok (.iinc 3 1, 3) := by decide +kernel
theorem dX2_takeOut_36 : decode cX2_takeOut 36 = .ok (.goto (-25), 3) := by decide +kernel
theorem dX2_takeOut_39 : decode cX2_takeOut 39 = .ok (.aload_n 0, 1) := by decide +kernel
theorem dX2_takeOut_40 : decode cX2_takeOut 40 = .ok (.dup, 1) := by decide +kernel
theorem dX2_takeOut_41 : decode cX2_takeOut 41 = .ok (.getfield 15, 3) := by decide +kernel
theorem dX2_takeOut_44 : decode cX2_takeOut 44 = .ok (.iconst 1, 1) := by decide +kernel
theorem dX2_takeOut_45 : decode cX2_takeOut 45 = .ok (.isub, 1) := by decide +kernel
theorem dX2_takeOut_46 : decode cX2_takeOut 46 = .ok (.putfield 15, 3) := by decide +kernel
theorem dX2_takeOut_49 : decode cX2_takeOut 49 = .ok (.iload_n 2, 1) := by decide +kernel
theorem dX2_takeOut_50 : decode cX2_takeOut 50 = .ok (.ireturn, 1) := by decide +kernel
theorem dX3_init_0 : decode cX3_init 0 = .ok (.aload_n 0, 1) := by decide +kernel
theorem dX3_init_1 : decode cX3_init 1 = .ok (.invokespecial 3, 3) := by decide +kernel
theorem dX3_init_4 : decode cX3_init 4 = .ok (.aload_n 0, 1) := by decide +kernel
theorem dX3_init_5 : decode cX3_init 5 = .ok (.bipush 60, 2) := by decide +kernel
theorem dX3_init_7 : decode cX3_init 7 = .ok (.newarray .char, 2) := by decide +kernel
theorem dX3_init_9 : decode cX3_init 9 = .ok (.putfield 9, 3) := by decide +kernel
theorem dX3_init_12 : decode cX3_init 12 = .ok (.aload_n 0, 1) := by decide +kernel
theorem dX3_init_13 : decode cX3_init 13 = .ok (.iconst 0, 1) := by decide +kernel
theorem dX3_init_14 : decode cX3_init 14 = .ok (.putfield 15, 3) := by decide +kernel
theorem dX3_init_17 : decode cX3_init 17 = .ok (.aload_n 0, 1) := by decide +kernel
theorem dX3_init_18 : decode cX3_init 18 = .ok (.iconst 0, 1) := by decide +kernel
theorem dX3_init_19 : decode cX3_init 19 = .ok (.putfield 19, 3) := by decide +kernel
theorem dX3_init_22 : decode cX3_init 22 = .ok (.aload_n 0, 1) := by decide +kernel
theorem dX3_init_23 : decode cX3_init 23 = .ok (.iconst 0, 1) := by decide +kernel
theorem dX3_init_24 : decode cX3_init 24 = .ok (.putfield 22, 3) := by decide +kernel
theorem dX3_init_27 : decode cX3_init 27 = .ok (.aload_n 0, 1) := by decide +kernel
theorem dX3_init_28 : decode cX3_init 28 = .ok (.iconst 0, 1) := by decide +kernel
theorem dX3_init_29 : decode cX3_init 29 = .ok (.putfield 26, 3) := by decide +kernel
theorem dX3_init_32 : decode cX3_init 32 = .ok (.aload_n 0, 1) := by decide +kernel
theorem dX3_init_33 : decode cX3_init 33 = .ok (.iconst 0, 1) := by decide +kernel
theorem dX3_init_34 : decode cX3_init 34 = .ok (.putfield 29, 3) := by decide +kernel
theorem dX3_init_37 : decode cX3_init 37 = .ok (.aload_n 0, 1) := by decide +kernel
theorem dX3_init_38 : decode cX3_init 38 = .ok (.iconst 0, 1) := by decide +kernel
theorem dX3_init_39 : decode cX3_init 39 = .ok (.putfield 32, 3) := by decide +kernel
theorem dX3_init_42 : decode cX3_init 42 = .ok (.return_, 1) := by decide +kernel
theorem dX3_rewind_0 : decode cX3_rewind 0 = .ok (.aload_n 0, 1) := by decide +kernel
theorem dX3_rewind_1 : decode cX3_rewind 1 = .ok (.iconst 0, 1) := by decide +kernel
theorem dX3_rewind_2 : decode cX3_rewind 2 = .ok (.putfield 19, 3) := by decide +kernel
theorem dX3_rewind_5 : decode cX3_rewind 5 = .ok (.return_, 1) := by decide +kernel
set_option maxRecDepth 20000 in
theorem ggX3_findFault_X3_rewind : GoodIn wsX3_findFault wsX3_rewind := goodIn_r _ [7, 1, 33, 34, 35, 36, 37, 38, 39] (by decide +kernel) (by decide +kernel)
set_option maxRecDepth 20000 in
theorem gX3_findFault_X3_rewind : GoodIn wsX3_findFault (wsV RX3 35 RX3 yX3_rewind wsX3_rewind) := goodIn_app (goodIn_of _ (by decide +kernel)) ggX3_findFault_X3_rewind
set_option maxRecDepth 20000 in
theorem ggX3_findFault_X3_readOrder : GoodIn wsX3_findFault wsX3_readOrder := goodIn_r _ [11, 12, 1, 13, 14, 15, 16, 17, 18, 6, 19, 2, 20, 21, 22, 23, 24, 25, 26, 27, 28, 29, 30, 31, 32, 33, 34, 35, 36, 37, 38, 39] (by decide +kernel) (by decide +kernel)
set_option maxRecDepth 20000 in
theorem gX3_findFault_X3_readOrder : GoodIn wsX3_findFault (wsV RX3 38 RX3 yX3_readOrder wsX3_readOrder) := goodIn_app (goodIn_of _ (by decide +kernel)) ggX3_findFault_X3_readOrder
set_option maxRecDepth 20000 in
theorem ggX3_findFault_X3_take : GoodIn wsX3_findFault wsX3_take := goodIn_r _ [32, 1, 16, 17, 18, 6, 19, 2, 20, 33, 34, 35, 36, 37, 38, 39] (by decide +kernel) (by decide +kernel)
set_option maxRecDepth 20000 in
theorem gX3_findFault_X3_take : GoodIn wsX3_findFault (wsV RX3 42 RX3 yX3_take wsX3_take) := goodIn_app (goodIn_of _ (by decide +kernel)) ggX3_findFault_X3_take
theorem dX3_findFault_0 : decode cX3_findFault 0 = .ok (.aload_n 0, 1) := by decide +kernel
theorem dX3_findFault_1 : decode cX3_findFault 1 = .ok (.invokevirtual 35, 3) := by decide +kernel
theorem dX3_findFault_4 : decode cX3_findFault 4 = .ok (.iconst 0, 1) := by decide +kernel
theorem dX3_findFault_5 : decode cX3_findFault 5 = .ok (.istore_n 1, 1) := by decide +kernel
theorem dX3_findFault_6 : decode cX3_findFault 6 = .ok (.iload_n 1, 1) := by decide +kernel
theorem dX3_findFault_7 : decode cX3_findFault 7 = .ok (.bipush 60, 2) := by decide +kernel
theorem dX3_findFault_9 : decode cX3_findFault 9 = .ok (.if_icmp .ge 49, 3) := by decide +kernel
theorem dX3_findFault_12 : decode cX3_findFault 12 = .ok (.aload_n 0, 1) := by decide +kernel
theorem dX3_findFault_13 : decode cX3_findFault 13 = .ok (.invokevirtual 38, 3) := by decide +kernel
theorem dX3_findFault_16 : decode cX3_findFault 16 = .ok (.ifCond .ne 8, 3) := by decide +kernel
theorem dX3_findFault_19 : decode cX3_findFault 19 = .ok (.aload_n 0, 1) := by decide +kernel
theorem dX3_findFault_20 : decode cX3_findFault 20 = .ok (.getfield 19, 3) := by decide +kernel
theorem dX3_findFault_23 : decode cX3_findFault 23 = .ok (.ireturn, 1) := by decide +kernel
theorem dX3_findFault_24 : decode cX3_findFault 24 = .ok (.aload_n 0, 1) := by decide +kernel
theorem dX3_findFault_25 : decode cX3_findFault 25 = .ok (.getfield 19, 3) := by decide +kernel
theorem dX3_findFault_28 : decode cX3_findFault 28 = .ok (.aload_n 0, 1) := by decide +kernel
theorem dX3_findFault_29 : decode cX3_findFault 29 = .ok (.getfield 15, 3) := by decide +kernel
theorem dX3_findFault_32 : decode cX3_findFault 32 = .ok (.if_icmp .ne 6, 3) := by decide +kernel
theorem dX3_findFault_35 : decode cX3_findFault 35 = .ok (.bipush (-5), 2) := by decide +kernel
theorem dX3_findFault_37 : decode cX3_findFault 37 = .ok (.ireturn, 1) := by decide +kernel
theorem dX3_findFault_38 : decode cX3_findFault 38 = .ok (.aload_n 0, 1) := by decide +kernel
theorem dX3_findFault_39 : decode cX3_findFault 39 = .ok (.bipush 44, 2) := by decide +kernel
theorem dX3_findFault_41 : decode cX3_findFault 41 = .ok (.invokevirtual 42, 3) := by decide +kernel
theorem dX3_findFault_44 : decode cX3_findFault 44 = .ok (.ifCond .ne 8, 3) := by decide +kernel
theorem dX3_findFault_47 : decode cX3_findFault 47 = .ok (.aload_n 0, 1) := by decide +kernel
theorem dX3_findFault_48 : decode cX3_findFault 48 = .ok (.getfield 19, 3) := by decide +kernel
theorem dX3_findFault_51 : decode cX3_findFault 51 = .ok (.ireturn, 1) := by decide +kernel
theorem dX3_findFault_52 : decode cX3_findFault 52 = .ok (.iinc 1 1, 3) := by decide +kernel
theorem dX3_findFault_55 : decode cX3_findFault 55 = .ok (.goto (-49), 3) := by decide +kernel
theorem dX3_findFault_58 : decode cX3_findFault 58 = .ok (.aload_n 0, 1) := by decide +kernel
theorem dX3_findFault_59 : decode cX3_findFault 59 = .ok (.getfield 19, 3) := by decide +kernel
theorem dX3_findFault_62 : decode cX3_findFault 62 = .ok (.ireturn, 1) := by decide +kernel
set_option maxRecDepth 20000 in
theorem ggX3_readOrder_X3_sign : GoodIn wsX3_readOrder wsX3_sign := goodIn_r _ [10, 2, 11, 12, 25, 26, 27, 28, 29, 30, 31] (by decide +kernel) (by decide +kernel)
set_option maxRecDepth 20000 in
theorem gX3_readOrder_X3_sign : GoodIn wsX3_readOrder (wsV RX3 46 RX3 yX3_sign wsX3_sign) := goodIn_app (goodIn_of _ (by decide +kernel)) ggX3_readOrder_X3_sign
set_option maxRecDepth 20000 in
theorem ggX3_readOrder_X3_readConker : GoodIn wsX3_readOrder wsX3_readConker := goodIn_r _ [16, 2, 17, 18, 19, 9, 20, 6, 7, 8, 10, 11, 12, 25, 26, 27, 28, 29, 30, 31] (by decide +kernel) (by decide +kernel)
set_option maxRecDepth 20000 in
theorem gX3_readOrder_X3_readConker : GoodIn wsX3_readOrder (wsV RX3 50 RX3 yX3_readConker wsX3_readConker) := goodIn_app (goodIn_of _ (by decide +kernel)) ggX3_readOrder_X3_readConker
set_option maxRecDepth 20000 in
theorem ggX3_readOrder_X3_take : GoodIn wsX3_readOrder wsX3_take := goodIn_r _ [24, 2, 6, 7, 8, 9, 10, 11, 12, 25, 26, 27, 28, 29, 30, 31] (by decide +kernel) (by decide +kernel)
set_option maxRecDepth 20000 in
theorem gX3_readOrder_X3_take : GoodIn wsX3_readOrder (wsV RX3 42 RX3 yX3_take wsX3_take) := goodIn_app (goodIn_of _ (by decide +kernel)) ggX3_readOrder_X3_take
set_option maxRecDepth 20000 in
theorem ggX3_readOrder_X3_digit : GoodIn wsX3_readOrder wsX3_digit := goodIn_r _ [20, 6, 7, 8, 9, 10, 2, 11, 12, 25, 26, 27, 28, 29, 30, 31] (by decide +kernel) (by decide +kernel)
set_option maxRecDepth 20000 in
theorem gX3_readOrder_X3_digit : GoodIn wsX3_readOrder (wsV RX3 54 RX3 yX3_digit wsX3_digit) := goodIn_app (goodIn_of _ (by decide +kernel)) ggX3_readOrder_X3_digit
theorem dX3_readOrder_0 : decode cX3_readOrder 0 = .ok (.aload_n 0, 1) := by decide +kernel
theorem dX3_readOrder_1 : decode cX3_readOrder 1 = .ok (.aload_n 0, 1) := by decide +kernel
theorem dX3_readOrder_2 : decode cX3_readOrder 2 = .ok (.invokevirtual 46, 3) := by decide +kernel
theorem dX3_readOrder_5 : decode cX3_readOrder 5 = .ok (.putfield 22, 3) := by decide +kernel
theorem dX3_readOrder_8 : decode cX3_readOrder 8 = .ok (.aload_n 0, 1) := by decide +kernel
theorem dX3_readOrder_9 : decode cX3_readOrder 9 = .ok (.getfield 22, 3) := by decide +kernel
theorem dX3_readOrder_12 : decode cX3_readOrder 12 = .ok (.bipush 116, 2) := by decide +kernel
theorem dX3_readOrder_14 : decode cX3_readOrder 14 = .ok (.if_icmp .eq 12, 3) := by decide +kernel
theorem dX3_readOrder_17 : decode cX3_readOrder 17 = .ok (.aload_n 0, 1) := by decide +kernel
theorem dX3_readOrder_18 : decode cX3_readOrder 18 = .ok (.getfield 22, 3) := by decide +kernel
theorem dX3_readOrder_21 : decode cX3_readOrder 21 = .ok (.bipush 115, 2) := by decide +kernel
theorem dX3_readOrder_23 : decode cX3_readOrder 23 = .ok (.if_icmp .ne 34, 3) := by decide +kernel
theorem dX3_readOrder_26 : decode cX3_readOrder 26 = .ok (.aload_n 0, 1) := by decide +kernel
theorem dX3_readOrder_27 : decode cX3_readOrder 27 = .ok (.dup, 1) := by decide +kernel
theorem dX3_readOrder_28 : decode cX3_readOrder 28 = .ok (.getfield 19, 3) := by decide +kernel
theorem dX3_readOrder_31 : decode cX3_readOrder 31 = .ok (.iconst 1, 1) := by decide +kernel
theorem dX3_readOrder_32 : decode cX3_readOrder 32 = .ok (.iadd, 1) := by decide +kernel
theorem dX3_readOrder_33 : decode cX3_readOrder 33 = .ok (.putfield 19, 3) := by decide +kernel
theorem dX3_readOrder_36 : decode cX3_readOrder 36 = .ok (.aload_n 0, 1) := by decide +kernel
theorem dX3_readOrder_37 : decode cX3_readOrder 37 = .ok (.aload_n 0, 1) := by decide +kernel
theorem dX3_readOrder_38 : decode cX3_readOrder 38 = .ok (.invokevirtual 50, 3) := by decide +kernel
theorem dX3_readOrder_41 : decode cX3_readOrder 41 = .ok (.putfield 26, 3) := by decide +kernel
theorem dX3_readOrder_44 : decode cX3_readOrder 44 = .ok (.aload_n 0, 1) := by decide +kernel
theorem dX3_readOrder_45 : decode cX3_readOrder 45 = .ok (.getfield 26, 3) := by decide +kernel
theorem dX3_readOrder_48 : decode cX3_readOrder 48 = .ok (.ifCond .lt 7, 3) := by decide +kernel
theorem dX3_readOrder_51 : decode cX3_readOrder 51 = .ok (.iconst 1, 1) := by decide +kernel
theorem dX3_readOrder_52 : decode cX3_readOrder 52 = .ok (.goto 4, 3) := by decide +kernel
theorem dX3_readOrder_55 : decode cX3_readOrder 55 = .ok (.iconst 0, 1) := by decide +kernel
theorem dX3_readOrder_56 : decode cX3_readOrder 56 = .ok (.ireturn, 1) := by decide +kernel
theorem dX3_readOrder_57 : decode cX3_readOrder 57 = .ok (.aload_n 0, 1) := by decide +kernel
theorem dX3_readOrder_58 : decode cX3_readOrder 58 = .ok (.bipush 120, 2) := by decide +kernel
theorem dX3_readOrder_60 : decode cX3_readOrder 60 = .ok (.putfield 22, 3) := by decide +kernel
theorem dX3_readOrder_63 : decode cX3_readOrder 63 = .ok (.aload_n 0, 1) := by decide +kernel
theorem dX3_readOrder_64 : decode cX3_readOrder 64 = .ok (.aload_n 0, 1) := by decide +kernel
theorem dX3_readOrder_65 : decode cX3_readOrder 65 = .ok (.invokevirtual 50, 3) := by decide +kernel
theorem dX3_readOrder_68 : decode cX3_readOrder 68 = .ok (.putfield 26, 3) := by decide +kernel
theorem dX3_readOrder_71 : decode cX3_readOrder 71 = .ok (.aload_n 0, 1) := by decide +kernel
theorem dX3_readOrder_72 : decode cX3_readOrder 72 = .ok (.getfield 26, 3) := by decide +kernel
theorem dX3_readOrder_75 : decode cX3_readOrder 75 = .ok (.ifCond .lt 12, 3) := by decide +kernel
theorem dX3_readOrder_78 : decode cX3_readOrder 78 = .ok (.aload_n 0, 1) := by decide +kernel
theorem dX3_readOrder_79 : decode cX3_readOrder 79 = .ok (.bipush 120, 2) := by decide +kernel
theorem dX3_readOrder_81 : decode cX3_readOrder 81 = .ok (.invokevirtual 42, 3) := by decide +kernel
theorem dX3_readOrder_84 : decode cX3_readOrder 84 = .ok (.ifCond .ne 5, 3) := by decide +kernel
theorem dX3_readOrder_87 : decode cX3_readOrder 87 = .ok (.iconst 0, 1) := by decide +kernel
theorem dX3_readOrder_88 : decode cX3_readOrder 88 = .ok (.ireturn, 1) := by decide +kernel
theorem dX3_readOrder_89 : decode cX3_readOrder 89 = .ok (.aload_n 0, 1) := by decide +kernel
theorem dX3_readOrder_90 : decode cX3_readOrder 90 = .ok (.aload_n 0, 1) := by decide +kernel
theorem dX3_readOrder_91 : decode cX3_readOrder 91 = .ok (.invokevirtual 50, 3) := by decide +kernel
theorem dX3_readOrder_94 : decode cX3_readOrder 94 = .ok (.putfield 29, 3) := by decide +kernel
theorem dX3_readOrder_97 : decode cX3_readOrder 97 = .ok (.aload_n 0, 1) := by decide +kernel
theorem dX3_readOrder_98 : decode cX3_readOrder 98 = .ok (.getfield 29, 3) := by decide +kernel
theorem dX3_readOrder_101 : decode cX3_readOrder 101 = .ok (.ifCond .lt 12, 3) := by decide +kernel
theorem dX3_readOrder_104 : decode cX3_readOrder 104 = .ok (.aload_n 0, 1) := by decide +kernel
theorem dX3_readOrder_105 : decode cX3_readOrder 105 = .ok (.bipush 58, 2) := by decide +kernel
theorem dX3_readOrder_107 : decode cX3_readOrder 107 = .ok (.invokevirtual 42, 3) := by decide +kernel
theorem dX3_readOrder_110 : decode cX3_readOrder 110 = .ok (.ifCond .ne 5, 3) := by decide +kernel
theorem dX3_readOrder_113 : decode cX3_readOrder 113 = .ok (.iconst 0, 1) := by decide +kernel
theorem dX3_readOrder_114 : decode cX3_readOrder 114 = .ok (.ireturn, 1) := by decide +kernel
theorem dX3_readOrder_115 : decode cX3_readOrder 115 = .ok (.aload_n 0, 1) := by decide +kernel
theorem dX3_readOrder_116 : decode cX3_readOrder 116 = .ok (.aload_n 0, 1) := by decide +kernel
theorem dX3_readOrder_117 : decode cX3_readOrder 117 = .ok (.invokevirtual 54, 3) := by decide +kernel
theorem dX3_readOrder_120 : decode cX3_readOrder 120 = .ok (.putfield 32, 3) := by decide +kernel
theorem dX3_readOrder_123 : decode cX3_readOrder 123 = .ok (.aload_n 0, 1) := by decide +kernel
theorem dX3_readOrder_124 : decode cX3_readOrder 124 = .ok (.getfield 32, 3) := by decide +kernel
theorem dX3_readOrder_127 : decode cX3_readOrder 127 = .ok (.iconst 1, 1) := by decide +kernel
theorem dX3_readOrder_128 : decode cX3_readOrder 128 = .ok (.if_icmp .ge 5, 3) := by decide +kernel
theorem dX3_readOrder_131 : decode cX3_readOrder 131 = .ok (.iconst 0, 1) := by decide +kernel
theorem dX3_readOrder_132 : decode cX3_readOrder 132 = .ok (.ireturn, 1) := by decide +kernel
theorem dX3_readOrder_133 : decode cX3_readOrder 133 = .ok (.aload_n 0, 1) := by decide +kernel
theorem dX3_readOrder_134 : decode cX3_readOrder 134 = .ok (.dup, 1) := by decide +kernel
theorem dX3_readOrder_135 : decode cX3_readOrder 135 = .ok (.getfield 19, 3) := by decide +kernel
theorem dX3_readOrder_138 : decode cX3_readOrder 138 = .ok (.iconst 1, 1) := by decide +kernel
theorem dX3_readOrder_139 : decode cX3_readOrder 139 = .ok (.iadd, 1) := by decide +kernel
theorem dX3_readOrder_140 : decode cX3_readOrder 140 = .ok (.putfield 19, 3) := by decide +kernel
theorem dX3_readOrder_143 : decode cX3_readOrder 143 = .ok (.iconst 1, 1) := by decide +kernel
theorem dX3_readOrder_144 : decode cX3_readOrder 144 = .ok (.ireturn, 1) := by decide +kernel
set_option maxRecDepth 20000 in
theorem ggX3_take_X3_sign : GoodIn wsX3_take wsX3_sign := goodIn_r _ [6, 1, 7, 8, 9, 10, 11, 12, 13, 14, 15] (by decide +kernel) (by decide +kernel)
set_option maxRecDepth 20000 in
theorem gX3_take_X3_sign : GoodIn wsX3_take (wsV RX3 46 RX3 yX3_sign wsX3_sign) := goodIn_app (goodIn_of _ (by decide +kernel)) ggX3_take_X3_sign
theorem dX3_take_0 : decode cX3_take 0 = .ok (.aload_n 0, 1) := by decide +kernel
theorem dX3_take_1 : decode cX3_take 1 = .ok (.invokevirtual 46, 3) := by decide +kernel
theorem dX3_take_4 : decode cX3_take 4 = .ok (.iload_n 1, 1) := by decide +kernel
theorem dX3_take_5 : decode cX3_take 5 = .ok (.if_icmp .eq 5, 3) := by decide +kernel
theorem dX3_take_8 : decode cX3_take 8 = .ok (.iconst 0, 1) := by decide +kernel
theorem dX3_take_9 : decode cX3_take 9 = .ok (.ireturn, 1) := by decide +kernel
theorem dX3_take_10 : decode cX3_take 10 = .ok (.aload_n 0, 1) := by decide +kernel
theorem dX3_take_11 : decode cX3_take 11 = .ok (.dup, 1) := by decide +kernel
theorem dX3_take_12 : decode cX3_take 12 = .ok (.getfield 19, 3) := by decide +kernel
theorem dX3_take_15 : decode cX3_take 15 = .ok (.iconst 1, 1) := by decide +kernel
theorem dX3_take_16 : decode cX3_take 16 = .ok (.iadd, 1) := by decide +kernel
theorem dX3_take_17 : decode cX3_take 17 = .ok (.putfield 19, 3) := by decide +kernel
theorem dX3_take_20 : decode cX3_take 20 = .ok (.iconst 1, 1) := by decide +kernel
theorem dX3_take_21 : decode cX3_take 21 = .ok (.ireturn, 1) := by decide +kernel
set_option maxRecDepth 20000 in
theorem ggX3_readConker_X3_digit : GoodIn wsX3_readConker wsX3_digit := goodIn_r _ [6, 7, 8, 9, 5, 10, 1, 11, 12, 13, 14, 15, 16, 17, 18, 19] (by decide +kernel) (by decide +kernel)
set_option maxRecDepth 20000 in
theorem gX3_readConker_X3_digit : GoodIn wsX3_readConker (wsV RX3 54 RX3 yX3_digit wsX3_digit) := goodIn_app (goodIn_of _ (by decide +kernel)) ggX3_readConker_X3_digit
theorem dX3_readConker_0 : decode cX3_readConker 0 = .ok (.aload_n 0, 1) := by decide +kernel
theorem dX3_readConker_1 : decode cX3_readConker 1 = .ok (.invokevirtual 54, 3) := by decide +kernel
theorem dX3_readConker_4 : decode cX3_readConker 4 = .ok (.istore_n 1, 1) := by decide +kernel
theorem dX3_readConker_5 : decode cX3_readConker 5 = .ok (.iload_n 1, 1) := by decide +kernel
theorem dX3_readConker_6 : decode cX3_readConker 6 = .ok (.ifCond .ge 6, 3) := by decide +kernel
theorem dX3_readConker_9 : decode cX3_readConker 9 = .ok (.bipush (-5), 2) := by decide +kernel
theorem dX3_readConker_11 : decode cX3_readConker 11 = .ok (.ireturn, 1) := by decide +kernel
theorem dX3_readConker_12 : decode cX3_readConker 12 = .ok (.aload_n 0, 1) := by decide +kernel
theorem dX3_readConker_13 : decode cX3_readConker 13 = .ok (.dup, 1) := by decide +kernel
theorem dX3_readConker_14 : decode cX3_readConker 14 = .ok (.getfield 19, 3) := by decide +kernel
theorem dX3_readConker_17 : decode cX3_readConker 17 = .ok (.iconst 1, 1) := by decide +kernel
theorem dX3_readConker_18 : decode cX3_readConker 18 = .ok (.iadd, 1) := by decide +kernel
theorem dX3_readConker_19 : decode cX3_readConker 19 = .ok (.putfield 19, 3) := by decide +kernel
theorem dX3_readConker_22 : decode cX3_readConker 22 = .ok (.aload_n 0, 1) := by decide +kernel
theorem dX3_readConker_23 : decode cX3_readConker 23 = .ok (.invokevirtual 54, 3) := by decide +kernel
theorem dX3_readConker_26 : decode cX3_readConker 26 = .ok (.istore_n 2, 1) := by decide +kernel
theorem dX3_readConker_27 : decode cX3_readConker 27 = .ok (.iload_n 1, 1) := by decide +kernel
theorem dX3_readConker_28 : decode cX3_readConker 28 = .ok (.iconst 1, 1) := by decide +kernel
theorem dX3_readConker_29 : decode cX3_readConker 29 = .ok (.if_icmp .eq 8, 3) := by decide +kernel
theorem dX3_readConker_32 : decode cX3_readConker 32 = .ok (.iload_n 1, 1) := by decide +kernel
theorem dX3_readConker_33 : decode cX3_readConker 33 = .ok (.iconst 2, 1) := by decide +kernel
theorem dX3_readConker_34 : decode cX3_readConker 34 = .ok (.if_icmp .ne 24, 3) := by decide +kernel
theorem dX3_readConker_37 : decode cX3_readConker 37 = .ok (.iload_n 2, 1) := by decide +kernel
theorem dX3_readConker_38 : decode cX3_readConker 38 = .ok (.ifCond .lt 20, 3) := by decide +kernel
theorem dX3_readConker_41 : decode cX3_readConker 41 = .ok (.aload_n 0, 1) := by decide +kernel
theorem dX3_readConker_42 : decode cX3_readConker 42 = .ok (.dup, 1) := by decide +kernel
theorem dX3_readConker_43 : decode cX3_readConker 43 = .ok (.getfield 19, 3) := by decide +kernel
theorem dX3_readConker_46 : decode cX3_readConker 46 = .ok (.iconst 1, 1) := by decide +kernel
theorem dX3_readConker_47 : decode cX3_readConker 47 = .ok (.iadd, 1) := by decide +kernel
theorem dX3_readConker_48 : decode cX3_readConker 48 = .ok (.putfield 19, 3) := by decide +kernel
theorem dX3_readConker_51 : decode cX3_readConker 51 = .ok (.bipush 10, 2) := by decide +kernel
theorem dX3_readConker_53 : decode cX3_readConker 53 = .ok (.iload_n 1, 1) := by decide +kernel
theorem dX3_readConker_54 : decode cX3_readConker 54 = .ok (.imul, 1) := by decide +kernel
theorem dX3_readConker_55 : decode cX3_readConker 55 = .ok (.iload_n 2, 1) := by decide +kernel
theorem dX3_readConker_56 : decode cX3_readConker 56 = .ok (.iadd, 1) := by decide +kernel
theorem dX3_readConker_57 : decode cX3_readConker 57 = .ok (.ireturn, 1) := by decide +kernel
theorem dX3_readConker_58 : decode cX3_readConker 58 = .ok (.iload_n 1, 1) := by decide +kernel
theorem dX3_readConker_59 : decode cX3_readConker 59 = .ok (.ireturn, 1) := by decide +kernel
set_option maxRecDepth 20000 in
theorem ggX3_digit_X3_sign : GoodIn wsX3_digit wsX3_sign := goodIn_r _ [5, 6, 7, 8, 9, 10, 11, 12, 13, 14, 15] (by decide +kernel) (by decide +kernel)
set_option maxRecDepth 20000 in
theorem gX3_digit_X3_sign : GoodIn wsX3_digit (wsV RX3 46 RX3 yX3_sign wsX3_sign) := goodIn_app (goodIn_of _ (by decide +kernel)) ggX3_digit_X3_sign
theorem dX3_digit_0 : decode cX3_digit 0 = .ok (.aload_n 0, 1) := by decide +kernel
theorem dX3_digit_1 : decode cX3_digit 1 = .ok (.invokevirtual 46, 3) := by decide +kernel
theorem dX3_digit_4 : decode cX3_digit 4 = .ok (.istore_n 1, 1) := by decide +kernel
theorem dX3_digit_5 : decode cX3_digit 5 = .ok (.iload_n 1, 1) := by decide +kernel
theorem dX3_digit_6 : decode cX3_digit 6 = .ok (.bipush 48, 2) := by decide +kernel
theorem dX3_digit_8 : decode cX3_digit 8 = .ok (.if_icmp .lt 16, 3) := by decide +kernel
theorem dX3_digit_11 : decode cX3_digit 11 = .ok (.iload_n 1, 1) := by decide +kernel
theorem dX3_digit_12 : decode cX3_digit 12 = .ok (.bipush 57, 2) := by decide +kernel
theorem dX3_digit_14 : decode cX3_digit 14 = .ok (.if_icmp .gt 10, 3) := by decide +kernel
theorem dX3_digit_17 : decode cX3_digit 17 = .ok (.iload_n 1, 1) := by decide +kernel
theorem dX3_digit_18 : decode cX3_digit 18 = .ok (.bipush 48, 2) := by decide +kernel
theorem dX3_digit_20 : decode cX3_digit 20 = .ok (.isub, 1) := by decide +kernel
theorem dX3_digit_21 : decode cX3_digit 21 = .ok (.goto 5, 3) := by decide +kernel
theorem dX3_digit_24 : decode cX3_digit 24 = .ok (.bipush (-5), 2) := by decide +kernel
theorem dX3_digit_26 : decode cX3_digit 26 = .ok (.ireturn, 1) := by decide +kernel
theorem dX3_sign_0 : decode cX3_sign 0 = .ok (.aload_n 0, 1) := by decide +kernel
theorem dX3_sign_1 : decode cX3_sign 1 = .ok (.getfield 19, 3) := by decide +kernel
theorem dX3_sign_4 : decode cX3_sign 4 = .ok (.ifCond .lt 26, 3) := by decide +kernel
theorem dX3_sign_7 : decode cX3_sign 7 = .ok (.aload_n 0, 1) := by decide +kernel
theorem dX3_sign_8 : decode cX3_sign 8 = .ok (.getfield 19, 3) := by decide +kernel
theorem dX3_sign_11 : decode cX3_sign 11 = .ok (.aload_n 0, 1) := by decide +kernel
theorem dX3_sign_12 : decode cX3_sign 12 = .ok (.getfield 15, 3) := by decide +kernel
theorem dX3_sign_15 : decode cX3_sign 15 = .ok (.if_icmp .ge 15, 3) := by decide +kernel
theorem dX3_sign_18 : decode cX3_sign 18 = .ok (.aload_n 0, 1) := by decide +kernel
theorem dX3_sign_19 : decode cX3_sign 19 = .ok (.getfield 9, 3) := by decide +kernel
theorem dX3_sign_22 : decode cX3_sign 22 = .ok (.aload_n 0, 1) := by decide +kernel
theorem dX3_sign_23 : decode cX3_sign 23 = .ok (.getfield 19, 3) := by decide +kernel
theorem dX3_sign_26 : decode cX3_sign 26 = .ok (.caload, 1) := by decide +kernel
theorem dX3_sign_27 : decode cX3_sign 27 = .ok (.goto 4, 3) := by decide +kernel
theorem dX3_sign_30 : decode cX3_sign 30 = .ok (.iconst 0, 1) := by decide +kernel
theorem dX3_sign_31 : decode cX3_sign 31 = .ok (.ireturn, 1) := by decide +kernel
theorem dX4_init_0 : decode cX4_init 0 = .ok (.aload_n 0, 1) := by decide +kernel
theorem dX4_init_1 : decode cX4_init 1 = .ok (.invokespecial 3, 3) := by decide +kernel
theorem dX4_init_4 : decode cX4_init 4 = .ok (.aload_n 0, 1) := by decide +kernel
theorem dX4_init_5 : decode cX4_init 5 = .ok (.bipush 6, 2) := by decide +kernel
theorem dX4_init_7 : decode cX4_init 7 = .ok (.newarray .int, 2) := by decide +kernel
theorem dX4_init_9 : decode cX4_init 9 = .ok (.putfield 9, 3) := by decide +kernel
theorem dX4_init_12 : decode cX4_init 12 = .ok (.aload_n 0, 1) := by decide +kernel
theorem dX4_init_13 : decode cX4_init 13 = .ok (.bipush 6, 2) := by decide +kernel
theorem dX4_init_15 : decode cX4_init 15 = .ok (.newarray .int, 2) := by decide +kernel
theorem dX4_init_17 : decode cX4_init 17 = .ok (.putfield 15, 3) := by decide +kernel
theorem dX4_init_20 : decode cX4_init 20 = .ok (.aload_n 0, 1) := by decide +kernel
theorem dX4_init_21 : decode cX4_init 21 = .ok (.bipush 30, 2) := by decide +kernel
theorem dX4_init_23 : decode cX4_init 23 = .ok (.newarray .int, 2) := by decide +kernel
theorem dX4_init_25 : decode cX4_init 25 = .ok (.putfield 18, 3) := by decide +kernel
theorem dX4_init_28 : decode cX4_init 28 = .ok (.aload_n 0, 1) := by decide +kernel
theorem dX4_init_29 : decode cX4_init 29 = .ok (.bipush 30, 2) := by decide +kernel
theorem dX4_init_31 : decode cX4_init 31 = .ok (.newarray .int, 2) := by decide +kernel
theorem dX4_init_33 : decode cX4_init 33 = .ok (.putfield 21, 3) := by decide +kernel
theorem dX4_init_36 : decode cX4_init 36 = .ok (.aload_n 0, 1) := by decide +kernel
theorem dX4_init_37 : decode cX4_init 37 = .ok (.bipush 30, 2) := by decide +kernel
theorem dX4_init_39 : decode cX4_init 39 = .ok (.newarray .int, 2) := by decide +kernel
theorem dX4_init_41 : decode cX4_init 41 = .ok (.putfield 24, 3) := by decide +kernel
theorem dX4_init_44 : decode cX4_init 44 = .ok (.aload_n 0, 1) := by decide +kernel
theorem dX4_init_45 : decode cX4_init 45 = .ok (.bipush 30, 2) := by decide +kernel
theorem dX4_init_47 : decode cX4_init 47 = .ok (.newarray .int, 2) := by decide +kernel
theorem dX4_init_49 : decode cX4_init 49 = .ok (.putfield 27, 3) := by decide +kernel
theorem dX4_init_52 : decode cX4_init 52 = .ok (.aload_n 0, 1) := by decide +kernel
theorem dX4_init_53 : decode cX4_init 53 = .ok (.bipush 30, 2) := by decide +kernel
theorem dX4_init_55 : decode cX4_init 55 = .ok (.newarray .int, 2) := by decide +kernel
theorem dX4_init_57 : decode cX4_init 57 = .ok (.putfield 30, 3) := by decide +kernel
theorem dX4_init_60 : decode cX4_init 60 = .ok (.aload_n 0, 1) := by decide +kernel
theorem dX4_init_61 : decode cX4_init 61 = .ok (.bipush 30, 2) := by decide +kernel
theorem dX4_init_63 : decode cX4_init 63 = .ok (.newarray .int, 2) := by decide +kernel
theorem dX4_init_65 : decode cX4_init 65 = .ok (.putfield 33, 3) := by decide +kernel
theorem dX4_init_68 : decode cX4_init 68 = .ok (.aload_n 0, 1) := by decide +kernel
theorem dX4_init_69 : decode cX4_init 69 = .ok (.bipush 30, 2) := by decide +kernel
theorem dX4_init_71 : decode cX4_init 71 = .ok (.newarray .int, 2) := by decide +kernel
theorem dX4_init_73 : decode cX4_init 73 = .ok (.putfield 36, 3) := by decide +kernel
theorem dX4_init_76 : decode cX4_init 76 = .ok (.aload_n 0, 1) := by decide +kernel
theorem dX4_init_77 : decode cX4_init 77 = .ok (.bipush 30, 2) := by decide +kernel
theorem dX4_init_79 : decode cX4_init 79 = .ok (.newarray .int, 2) := by decide +kernel
theorem dX4_init_81 : decode cX4_init 81 = .ok (.putfield 39, 3) := by decide +kernel
theorem dX4_init_84 : decode cX4_init 84 = .ok (.aload_n 0, 1) := by decide +kernel
theorem dX4_init_85 : decode cX4_init 85 = .ok (.iconst 0, 1) := by decide +kernel
theorem dX4_init_86 : decode cX4_init 86 = .ok (.putfield 42, 3) := by decide +kernel
theorem dX4_init_89 : decode cX4_init 89 = .ok (.aload_n 0, 1) := by decide +kernel
theorem dX4_init_90 : decode cX4_init 90 = .ok (.iconst 0, 1) := by decide +kernel
theorem dX4_init_91 : decode cX4_init 91 = .ok (.putfield 46, 3) := by decide +kernel
theorem dX4_init_94 : decode cX4_init 94 = .ok (.aload_n 0, 1) := by decide +kernel
theorem dX4_init_95 : decode cX4_init 95 = .ok (.iconst 0, 1) := by decide +kernel
theorem dX4_init_96 : decode cX4_init 96 = .ok (.putfield 49, 3) := by decide +kernel
theorem dX4_init_99 : decode cX4_init 99 = .ok (.iconst 0, 1) := by decide +kernel
theorem dX4_init_100 : decode cX4_init 100 = .ok (.istore_n 1, 1) := by decide +kernel
theorem dX4_init_101 : decode cX4_init 101 = .ok (.iload_n 1, 1) := by decide +kernel
theorem dX4_init_102 : decode cX4_init 102 = .ok (.bipush 6, 2) := by decide +kernel
theorem dX4_init_104 : decode cX4_init 104 = .ok (.if_icmp .ge 16, 3) := by decide +kernel
theorem dX4_init_107 : decode cX4_init 107 = .ok (.aload_n 0, 1) := by decide +kernel
theorem dX4_init_108 : decode cX4_init 108 = .ok (.getfield 9, 3) := by decide +kernel
theorem dX4_init_111 : decode cX4_init 111 = .ok (.iload_n 1, 1) := by decide +kernel
theorem dX4_init_112 : decode cX4_init 112 = .ok (.iconst 3, 1) := by decide +kernel
theorem dX4_init_113 : decode cX4_init 113 = .ok (.iastore, 1) := by decide +kernel
theorem dX4_init_114 : decode cX4_init 114 = .ok (.iinc 1 1, 3) := by decide +kernel
theorem dX4_init_117 : decode cX4_init 117 = .ok (.goto (-16), 3) := by decide +kernel
theorem dX4_init_120 : decode cX4_init 120 = .ok (.return_, 1) := by decide +kernel
theorem dX4_copyFrom_0 : decode cX4_copyFrom 0 = .ok (.aload_n 1, 1) := by decide +kernel
theorem dX4_copyFrom_1 : decode cX4_copyFrom 1 = .ok (.getfield 9, 3) := by decide +kernel
theorem dX4_copyFrom_4 : decode cX4_copyFrom 4 = .ok (.iconst 0, 1) := by decide +kernel
theorem dX4_copyFrom_5 : decode cX4_copyFrom 5 = .ok (.aload_n 0, 1) := by decide +kernel
theorem dX4_copyFrom_6 : decode cX4_copyFrom 6 = .ok (.getfield 9, 3) := by decide +kernel
theorem dX4_copyFrom_9 : decode cX4_copyFrom 9 = .ok (.iconst 0, 1) := by decide +kernel
theorem dX4_copyFrom_10 : decode cX4_copyFrom 10 = .ok (.bipush 6, 2) := by decide +kernel
theorem dX4_copyFrom_12 : decode cX4_copyFrom 12 = .ok (.invokestatic 52, 3) := by decide +kernel
theorem dX4_copyFrom_15 : decode cX4_copyFrom 15 = .ok (.aload_n 1, 1) := by decide +kernel
theorem dX4_copyFrom_16 : decode cX4_copyFrom 16 = .ok (.getfield 15, 3) := by decide +kernel
theorem dX4_copyFrom_19 : decode cX4_copyFrom 19 = .ok (.iconst 0, 1) := by decide +kernel
theorem dX4_copyFrom_20 : decode cX4_copyFrom 20 = .ok (.aload_n 0, 1) := by decide +kernel
theorem dX4_copyFrom_21 : decode cX4_copyFrom 21 = .ok (.getfield 15, 3) := by decide +kernel
theorem dX4_copyFrom_24 : decode cX4_copyFrom 24 = .ok (.iconst 0, 1) := by decide +kernel
theorem dX4_copyFrom_25 : decode cX4_copyFrom 25 = .ok (.bipush 6, 2) := by decide +kernel
theorem dX4_copyFrom_27 : decode cX4_copyFrom 27 = .ok (.invokestatic 52, 3) := by decide +kernel
theorem dX4_copyFrom_30 : decode cX4_copyFrom 30 = .ok (.aload_n 1, 1) := by decide +kernel
theorem dX4_copyFrom_31 : decode cX4_copyFrom 31 = .ok (.getfield 18, 3) := by decide +kernel
theorem dX4_copyFrom_34 : decode cX4_copyFrom 34 = .ok (.iconst 0, 1) := by decide +kernel
theorem dX4_copyFrom_35 : decode cX4_copyFrom 35 = .ok (.aload_n 0, 1) := by decide +kernel
theorem dX4_copyFrom_36 : decode cX4_copyFrom 36 = .ok (.getfield 18, 3) := by decide +kernel
theorem dX4_copyFrom_39 : decode cX4_copyFrom 39 = .ok (.iconst 0, 1) := by decide +kernel
theorem dX4_copyFrom_40 : decode cX4_copyFrom 40 = .ok (.bipush 30, 2) := by decide +kernel
theorem dX4_copyFrom_42 : decode cX4_copyFrom 42 = .ok (.invokestatic 52, 3) := by decide +kernel
theorem dX4_copyFrom_45 : decode cX4_copyFrom 45 = .ok (.aload_n 1, 1) := by decide +kernel
theorem dX4_copyFrom_46 : decode cX4_copyFrom 46 = .ok (.getfield 21, 3) := by decide +kernel
theorem dX4_copyFrom_49 : decode cX4_copyFrom 49 = .ok (.iconst 0, 1) := by decide +kernel
theorem dX4_copyFrom_50 : decode cX4_copyFrom 50 = .ok (.aload_n 0, 1) := by decide +kernel
theorem dX4_copyFrom_51 : decode cX4_copyFrom 51 = .ok (.getfield 21, 3) := by decide +kernel
theorem dX4_copyFrom_54 : decode cX4_copyFrom 54 = .ok (.iconst 0, 1) := by decide +kernel
theorem dX4_copyFrom_55 : decode cX4_copyFrom 55 = .ok (.bipush 30, 2) := by decide +kernel
theorem dX4_copyFrom_57 : decode cX4_copyFrom 57 = .ok (.invokestatic 52, 3) := by decide +kernel
theorem dX4_copyFrom_60 : decode cX4_copyFrom 60 = .ok (.aload_n 1, 1) := by decide +kernel
theorem dX4_copyFrom_61 : decode cX4_copyFrom 61 = .ok (.getfield 24, 3) := by decide +kernel
theorem dX4_copyFrom_64 : decode cX4_copyFrom 64 = .ok (.iconst 0, 1) := by decide +kernel
theorem dX4_copyFrom_65 : decode cX4_copyFrom 65 = .ok (.aload_n 0, 1) := by decide +kernel
theorem dX4_copyFrom_66 : decode cX4_copyFrom 66 = .ok (.getfield 24, 3) := by decide +kernel
theorem dX4_copyFrom_69 : decode cX4_copyFrom 69 = .ok (.iconst 0, 1) := by decide +kernel
theorem dX4_copyFrom_70 : decode cX4_copyFrom 70 = .ok (.bipush 30, 2) := by decide +kernel
theorem dX4_copyFrom_72 : decode cX4_copyFrom 72 = .ok (.invokestatic 52, 3) := by decide +kernel
theorem dX4_copyFrom_75 : decode cX4_copyFrom 75 = .ok (.aload_n 1, 1) := by decide +kernel
theorem dX4_copyFrom_76 : decode cX4_copyFrom 76 = .ok (.getfield 27, 3) := by decide +kernel
theorem dX4_copyFrom_79 : decode cX4_copyFrom 79 = .ok (.iconst 0, 1) := by decide +kernel
theorem dX4_copyFrom_80 : decode cX4_copyFrom 80 = .ok (.aload_n 0, 1) := by decide +kernel
theorem dX4_copyFrom_81 : decode cX4_copyFrom 81 = .ok (.getfield 27, 3) := by decide +kernel
theorem dX4_copyFrom_84 : decode cX4_copyFrom 84 = .ok (.iconst 0, 1) := by decide +kernel
theorem dX4_copyFrom_85 : decode cX4_copyFrom 85 = .ok (.bipush 30, 2) := by decide +kernel
theorem dX4_copyFrom_87 : decode cX4_copyFrom 87 = .ok (.invokestatic 52, 3) := by decide +kernel
theorem dX4_copyFrom_90 : decode cX4_copyFrom 90 = .ok (.aload_n 1, 1) := by decide +kernel
theorem dX4_copyFrom_91 : decode cX4_copyFrom 91 = .ok (.getfield 30, 3) := by decide +kernel
theorem dX4_copyFrom_94 : decode cX4_copyFrom 94 = .ok (.iconst 0, 1) := by decide +kernel
theorem dX4_copyFrom_95 : decode cX4_copyFrom 95 = .ok (.aload_n 0, 1) := by decide +kernel
theorem dX4_copyFrom_96 : decode cX4_copyFrom 96 = .ok (.getfield 30, 3) := by decide +kernel
theorem dX4_copyFrom_99 : decode cX4_copyFrom 99 = .ok (.iconst 0, 1) := by decide +kernel
theorem dX4_copyFrom_100 : decode cX4_copyFrom 100 = .ok (.bipush 30, 2) := by decide +kernel
theorem dX4_copyFrom_102 : decode cX4_copyFrom 102 = .ok (.invokestatic 52, 3) := by decide +kernel
theorem dX4_copyFrom_105 : decode cX4_copyFrom 105 = .ok (.aload_n 1, 1) := by decide +kernel
theorem dX4_copyFrom_106 : decode cX4_copyFrom 106 = .ok (.getfield 33, 3) := by decide +kernel
theorem dX4_copyFrom_109 : decode cX4_copyFrom 109 = .ok (.iconst 0, 1) := by decide +kernel
theorem dX4_copyFrom_110 : decode cX4_copyFrom 110 = .ok (.aload_n 0, 1) := by decide +kernel
theorem dX4_copyFrom_111 : decode cX4_copyFrom 111 = .ok (.getfield 33, 3) := by decide +kernel
theorem dX4_copyFrom_114 : decode cX4_copyFrom 114 = .ok (.iconst 0, 1) := by decide +kernel
theorem dX4_copyFrom_115 : decode cX4_copyFrom 115 = .ok (.bipush 30, 2) := by decide +kernel
theorem dX4_copyFrom_117 : decode cX4_copyFrom 117 = .ok (.invokestatic 52, 3) := by decide +kernel
theorem dX4_copyFrom_120 : decode cX4_copyFrom 120 = .ok (.aload_n 1, 1) := by decide +kernel
theorem dX4_copyFrom_121 : decode cX4_copyFrom 121 = .ok (.getfield 36, 3) := by decide +kernel
theorem dX4_copyFrom_124 : decode cX4_copyFrom 124 = .ok (.iconst 0, 1) := by decide +kernel
theorem dX4_copyFrom_125 : decode cX4_copyFrom 125 = .ok (.aload_n 0, 1) := by decide +kernel
theorem dX4_copyFrom_126 : decode cX4_copyFrom 126 = .ok (.getfield 36, 3) := by decide +kernel
theorem dX4_copyFrom_129 : decode cX4_copyFrom 129 = .ok (.iconst 0, 1) := by decide +kernel
theorem dX4_copyFrom_130 : decode cX4_copyFrom 130 = .ok (.bipush 30, 2) := by decide +kernel
end
section
theorem dX4_copyFrom_132 : decode cX4_copyFrom 132 = .ok (.invokestatic 52, 3) := by decide +kernel
theorem dX4_copyFrom_135 : decode cX4_copyFrom 135 = .ok (.aload_n 1, 1) := by decide +kernel
theorem dX4_copyFrom_136 : decode cX4_copyFrom 136 = .ok (.getfield 39, 3) := by decide +kernel
theorem dX4_copyFrom_139 : decode cX4_copyFrom 139 = .ok (.iconst 0, 1) := by decide +kernel
theorem dX4_copyFrom_140 : decode cX4_copyFrom 140 = .ok (.aload_n 0, 1) := by decide +kernel
theorem dX4_copyFrom_141 : decode cX4_copyFrom 141 = .ok (.getfield 39, 3) := by decide +kernel
theorem dX4_copyFrom_144 : decode cX4_copyFrom 144 = .ok (.iconst 0, 1) := by decide +kernel
theorem dX4_copyFrom_145 : decode cX4_copyFrom 145 = .ok (.bipush 30, 2) := by decide +kernel
theorem dX4_copyFrom_147 : decode cX4_copyFrom 147 = .ok (.invokestatic 52, 3) := by decide +kernel
theorem dX4_copyFrom_150 : decode cX4_copyFrom 150 = .ok (.aload_n 0, 1) := by decide +kernel
theorem dX4_copyFrom_151 : decode cX4_copyFrom 151 = .ok (.aload_n 1, 1) := by decide +kernel
theorem dX4_copyFrom_152 : decode cX4_copyFrom 152 = .ok (.getfield 42, 3) := by decide +kernel
theorem dX4_copyFrom_155 : decode cX4_copyFrom 155 = .ok (.putfield 42, 3) := by decide +kernel
theorem dX4_copyFrom_158 : decode cX4_copyFrom 158 = .ok (.aload_n 0, 1) := by decide +kernel
theorem dX4_copyFrom_159 : decode cX4_copyFrom 159 = .ok (.aload_n 1, 1) := by decide +kernel
theorem dX4_copyFrom_160 : decode cX4_copyFrom 160 = .ok (.getfield 46, 3) := by decide +kernel
theorem dX4_copyFrom_163 : decode cX4_copyFrom 163 = .ok (.putfield 46, 3) := by decide +kernel
theorem dX4_copyFrom_166 : decode cX4_copyFrom 166 = .ok (.aload_n 0, 1) := by decide +kernel
theorem dX4_copyFrom_167 : decode cX4_copyFrom 167 = .ok (.aload_n 1, 1) := by decide +kernel
theorem dX4_copyFrom_168 : decode cX4_copyFrom 168 = .ok (.getfield 49, 3) := by decide +kernel
theorem dX4_copyFrom_171 : decode cX4_copyFrom 171 = .ok (.putfield 49, 3) := by decide +kernel
theorem dX4_copyFrom_174 : decode cX4_copyFrom 174 = .ok (.return_, 1) := by decide +kernel
set_option maxRecDepth 20000 in
theorem ggX4_hasConker_X5_isWithin : GoodIn wsX4_hasConker wsX5_isWithin := goodIn_r _ [4] (by decide +kernel) (by decide +kernel)
set_option maxRecDepth 20000 in
theorem gX4_hasConker_X5_isWithin_n58 : GoodIn wsX4_hasConker (wsX5_isWithin) := ggX4_hasConker_X5_isWithin
theorem dX4_hasConker_0 : decode cX4_hasConker 0 = .ok (.iload_n 1, 1) := by decide +kernel
theorem dX4_hasConker_1 : decode cX4_hasConker 1 = .ok (.iconst 0, 1) := by decide +kernel
theorem dX4_hasConker_2 : decode cX4_hasConker 2 = .ok (.aload_n 0, 1) := by decide +kernel
theorem dX4_hasConker_3 : decode cX4_hasConker 3 = .ok (.getfield 42, 3) := by decide +kernel
theorem dX4_hasConker_6 : decode cX4_hasConker 6 = .ok (.iconst 1, 1) := by decide +kernel
theorem dX4_hasConker_7 : decode cX4_hasConker 7 = .ok (.isub, 1) := by decide +kernel
theorem dX4_hasConker_8 : decode cX4_hasConker 8 = .ok (.invokestatic 58, 3) := by decide +kernel
theorem dX4_hasConker_11 : decode cX4_hasConker 11 = .ok (.ireturn, 1) := by decide +kernel
set_option maxRecDepth 20000 in
theorem ggX4_strikeError_X5_isWithin : GoodIn wsX4_strikeError wsX5_isWithin := goodIn_r _ [3] (by decide +kernel) (by decide +kernel)
set_option maxRecDepth 20000 in
theorem gX4_strikeError_X5_isWithin_n58 : GoodIn wsX4_strikeError (wsX5_isWithin) := ggX4_strikeError_X5_isWithin
set_option maxRecDepth 20000 in
theorem ggX4_strikeError_X4_pairError : GoodIn wsX4_strikeError wsX4_pairError := goodIn_r _ [8, 9, 10, 11, 12, 7, 13, 14, 1, 2, 3, 15, 16, 17, 18, 19, 20, 21, 22, 23, 24, 25, 26, 27, 28, 29, 30, 31, 32] (by decide +kernel) (by decide +kernel)
set_option maxRecDepth 20000 in
theorem gX4_strikeError_X4_pairError : GoodIn wsX4_strikeError (wsV RX4 62 RX4 yX4_pairError wsX4_pairError) := goodIn_app (goodIn_of _ (by decide +kernel)) ggX4_strikeError_X4_pairError
theorem dX4_strikeError_0 : decode cX4_strikeError 0 = .ok (.aload_n 0, 1) := by decide +kernel
theorem dX4_strikeError_1 : decode cX4_strikeError 1 = .ok (.iload_n 1, 1) := by decide +kernel
theorem dX4_strikeError_2 : decode cX4_strikeError 2 = .ok (.iload_n 2, 1) := by decide +kernel
theorem dX4_strikeError_3 : decode cX4_strikeError 3 = .ok (.iload_n 3, 1) := by decide +kernel
theorem dX4_strikeError_4 : decode cX4_strikeError 4 = .ok (.iconst 1, 1) := by decide +kernel
theorem dX4_strikeError_5 : decode cX4_strikeError 5 = .ok (.bipush 9, 2) := by decide +kernel
theorem dX4_strikeError_7 : decode cX4_strikeError 7 = .ok (.invokestatic 58, 3) := by decide +kernel
theorem dX4_strikeError_10 : decode cX4_strikeError 10 = .ok (.invokevirtual 62, 3) := by decide +kernel
theorem dX4_strikeError_13 : decode cX4_strikeError 13 = .ok (.ireturn, 1) := by decide +kernel
set_option maxRecDepth 20000 in
theorem ggX4_boutError_X5_isWithin : GoodIn wsX4_boutError wsX5_isWithin := goodIn_r _ [4] (by decide +kernel) (by decide +kernel)
set_option maxRecDepth 20000 in
theorem gX4_boutError_X5_isWithin_n58 : GoodIn wsX4_boutError (wsX5_isWithin) := ggX4_boutError_X5_isWithin
set_option maxRecDepth 20000 in
theorem ggX4_boutError_X4_pairError : GoodIn wsX4_boutError wsX4_pairError := goodIn_r _ [9, 10, 11, 12, 13, 8, 14, 15, 2, 3, 4, 16, 17, 18, 19, 20, 21, 22, 23, 24, 25, 26, 27, 28, 29, 30, 31, 32, 33] (by decide +kernel) (by decide +kernel)
set_option maxRecDepth 20000 in
theorem gX4_boutError_X4_pairError : GoodIn wsX4_boutError (wsV RX4 62 RX4 yX4_pairError wsX4_pairError) := goodIn_app (goodIn_of _ (by decide +kernel)) ggX4_boutError_X4_pairError
theorem dX4_boutError_0 : decode cX4_boutError 0 = .ok (.aload_n 0, 1) := by decide +kernel
theorem dX4_boutError_1 : decode cX4_boutError 1 = .ok (.iload_n 1, 1) := by decide +kernel
theorem dX4_boutError_2 : decode cX4_boutError 2 = .ok (.iload_n 2, 1) := by decide +kernel
theorem dX4_boutError_3 : decode cX4_boutError 3 = .ok (.iload_n 3, 1) := by decide +kernel
theorem dX4_boutError_4 : decode cX4_boutError 4 = .ok (.iconst 0, 1) := by decide +kernel
theorem dX4_boutError_5 : decode cX4_boutError 5 = .ok (.ldc 66, 2) := by decide +kernel
theorem dX4_boutError_7 : decode cX4_boutError 7 = .ok (.invokestatic 58, 3) := by decide +kernel
theorem dX4_boutError_10 : decode cX4_boutError 10 = .ok (.invokevirtual 62, 3) := by decide +kernel
theorem dX4_boutError_13 : decode cX4_boutError 13 = .ok (.ireturn, 1) := by decide +kernel
set_option maxRecDepth 20000 in
theorem ggX4_pairError_X4_hasConker : GoodIn wsX4_pairError wsX4_hasConker := goodIn_r _ [6, 7, 8, 9, 10, 16, 17, 18, 19, 20, 21, 22, 23, 24, 25, 26, 27, 28] (by decide +kernel) (by decide +kernel)
set_option maxRecDepth 20000 in
theorem gX4_pairError_X4_hasConker : GoodIn wsX4_pairError (wsV RX4 67 RX4 yX4_hasConker wsX4_hasConker) := goodIn_app (goodIn_of _ (by decide +kernel)) ggX4_pairError_X4_hasConker
set_option maxRecDepth 20000 in
theorem ggX4_pairError_X4_areInPlay : GoodIn wsX4_pairError wsX4_areInPlay := goodIn_r _ [14, 15, 16, 17, 18, 19, 20, 21, 22, 23, 24, 25, 26, 27, 28] (by decide +kernel) (by decide +kernel)
set_option maxRecDepth 20000 in
theorem gX4_pairError_X4_areInPlay : GoodIn wsX4_pairError (wsV RX4 71 RX4 yX4_areInPlay wsX4_areInPlay) := goodIn_app (goodIn_of _ (by decide +kernel)) ggX4_pairError_X4_areInPlay
theorem dX4_pairError_0 : decode cX4_pairError 0 = .ok (.aload_n 0, 1) := by decide +kernel
theorem dX4_pairError_1 : decode cX4_pairError 1 = .ok (.iload_n 1, 1) := by decide +kernel
theorem dX4_pairError_2 : decode cX4_pairError 2 = .ok (.invokevirtual 67, 3) := by decide +kernel
theorem dX4_pairError_5 : decode cX4_pairError 5 = .ok (.ifCond .eq 11, 3) := by decide +kernel
theorem dX4_pairError_8 : decode cX4_pairError 8 = .ok (.aload_n 0, 1) := by decide +kernel
theorem dX4_pairError_9 : decode cX4_pairError 9 = .ok (.iload_n 2, 1) := by decide +kernel
theorem dX4_pairError_10 : decode cX4_pairError 10 = .ok (.invokevirtual 67, 3) := by decide +kernel
theorem dX4_pairError_13 : decode cX4_pairError 13 = .ok (.ifCond .ne 5, 3) := by decide +kernel
theorem dX4_pairError_16 : decode cX4_pairError 16 = .ok (.iconst (-1), 1) := by decide +kernel
theorem dX4_pairError_17 : decode cX4_pairError 17 = .ok (.ireturn, 1) := by decide +kernel
theorem dX4_pairError_18 : decode cX4_pairError 18 = .ok (.iload_n 3, 1) := by decide +kernel
theorem dX4_pairError_19 : decode cX4_pairError 19 = .ok (.ifCond .ne 6, 3) := by decide +kernel
theorem dX4_pairError_22 : decode cX4_pairError 22 = .ok (.bipush (-2), 2) := by decide +kernel
theorem dX4_pairError_24 : decode cX4_pairError 24 = .ok (.ireturn, 1) := by decide +kernel
theorem dX4_pairError_25 : decode cX4_pairError 25 = .ok (.aload_n 0, 1) := by decide +kernel
theorem dX4_pairError_26 : decode cX4_pairError 26 = .ok (.getfield 18, 3) := by decide +kernel
theorem dX4_pairError_29 : decode cX4_pairError 29 = .ok (.iload_n 1, 1) := by decide +kernel
theorem dX4_pairError_30 : decode cX4_pairError 30 = .ok (.iaload, 1) := by decide +kernel
theorem dX4_pairError_31 : decode cX4_pairError 31 = .ok (.aload_n 0, 1) := by decide +kernel
theorem dX4_pairError_32 : decode cX4_pairError 32 = .ok (.getfield 18, 3) := by decide +kernel
theorem dX4_pairError_35 : decode cX4_pairError 35 = .ok (.iload_n 2, 1) := by decide +kernel
theorem dX4_pairError_36 : decode cX4_pairError 36 = .ok (.iaload, 1) := by decide +kernel
theorem dX4_pairError_37 : decode cX4_pairError 37 = .ok (.if_icmp .eq 12, 3) := by decide +kernel
theorem dX4_pairError_40 : decode cX4_pairError 40 = .ok (.aload_n 0, 1) := by decide +kernel
theorem dX4_pairError_41 : decode cX4_pairError 41 = .ok (.iload_n 1, 1) := by decide +kernel
theorem dX4_pairError_42 : decode cX4_pairError 42 = .ok (.iload_n 2, 1) := by decide +kernel
theorem dX4_pairError_43 : decode cX4_pairError 43 = .ok (.invokevirtual 71, 3) := by decide +kernel
theorem dX4_pairError_46 : decode cX4_pairError 46 = .ok (.ifCond .ne 8, 3) := by decide +kernel
theorem dX4_pairError_49 : decode cX4_pairError 49 = .ok (.bipush (-4), 2) := by decide +kernel
theorem dX4_pairError_51 : decode cX4_pairError 51 = .ok (.goto 4, 3) := by decide +kernel
theorem dX4_pairError_54 : decode cX4_pairError 54 = .ok (.iconst 0, 1) := by decide +kernel
theorem dX4_pairError_55 : decode cX4_pairError 55 = .ok (.ireturn, 1) := by decide +kernel
set_option maxRecDepth 20000 in
theorem ggX4_mendError_X4_fallenError : GoodIn wsX4_mendError wsX4_fallenError := goodIn_r _ [7, 8, 9, 10, 11, 6, 12, 13, 14, 15, 16, 17, 18, 19, 20, 21, 22, 23, 24, 25, 26, 27, 28, 29] (by decide +kernel) (by decide +kernel)
set_option maxRecDepth 20000 in
theorem gX4_mendError_X4_fallenError : GoodIn wsX4_mendError (wsV RX4 75 RX4 yX4_fallenError wsX4_fallenError) := goodIn_app (goodIn_of _ (by decide +kernel)) ggX4_mendError_X4_fallenError
theorem dX4_mendError_0 : decode cX4_mendError 0 = .ok (.aload_n 0, 1) := by decide +kernel
theorem dX4_mendError_1 : decode cX4_mendError 1 = .ok (.iload_n 1, 1) := by decide +kernel
theorem dX4_mendError_2 : decode cX4_mendError 2 = .ok (.invokevirtual 75, 3) := by decide +kernel
theorem dX4_mendError_5 : decode cX4_mendError 5 = .ok (.istore_n 2, 1) := by decide +kernel
theorem dX4_mendError_6 : decode cX4_mendError 6 = .ok (.iload_n 2, 1) := by decide +kernel
theorem dX4_mendError_7 : decode cX4_mendError 7 = .ok (.ifCond .eq 5, 3) := by decide +kernel
theorem dX4_mendError_10 : decode cX4_mendError 10 = .ok (.iload_n 2, 1) := by decide +kernel
theorem dX4_mendError_11 : decode cX4_mendError 11 = .ok (.ireturn, 1) := by decide +kernel
theorem dX4_mendError_12 : decode cX4_mendError 12 = .ok (.aload_n 0, 1) := by decide +kernel
theorem dX4_mendError_13 : decode cX4_mendError 13 = .ok (.getfield 9, 3) := by decide +kernel
theorem dX4_mendError_16 : decode cX4_mendError 16 = .ok (.aload_n 0, 1) := by decide +kernel
theorem dX4_mendError_17 : decode cX4_mendError 17 = .ok (.getfield 18, 3) := by decide +kernel
theorem dX4_mendError_20 : decode cX4_mendError 20 = .ok (.iload_n 1, 1) := by decide +kernel
theorem dX4_mendError_21 : decode cX4_mendError 21 = .ok (.iaload, 1) := by decide +kernel
theorem dX4_mendError_22 : decode cX4_mendError 22 = .ok (.iaload, 1) := by decide +kernel
theorem dX4_mendError_23 : decode cX4_mendError 23 = .ok (.iconst 1, 1) := by decide +kernel
theorem dX4_mendError_24 : decode cX4_mendError 24 = .ok (.if_icmp .ge 8, 3) := by decide +kernel
theorem dX4_mendError_27 : decode cX4_mendError 27 = .ok (.bipush (-4), 2) := by decide +kernel
theorem dX4_mendError_29 : decode cX4_mendError 29 = .ok (.goto 4, 3) := by decide +kernel
theorem dX4_mendError_32 : decode cX4_mendError 32 = .ok (.iconst 0, 1) := by decide +kernel
theorem dX4_mendError_33 : decode cX4_mendError 33 = .ok (.ireturn, 1) := by decide +kernel
set_option maxRecDepth 20000 in
theorem ggX4_fallenError_X4_hasConker : GoodIn wsX4_fallenError wsX4_hasConker := goodIn_r _ [6, 7, 8, 9, 10, 11, 12, 13, 14, 15, 16, 17, 18, 19, 20, 21, 22, 23] (by decide +kernel) (by decide +kernel)
set_option maxRecDepth 20000 in
theorem gX4_fallenError_X4_hasConker : GoodIn wsX4_fallenError (wsV RX4 67 RX4 yX4_hasConker wsX4_hasConker) := goodIn_app (goodIn_of _ (by decide +kernel)) ggX4_fallenError_X4_hasConker
theorem dX4_fallenError_0 : decode cX4_fallenError 0 = .ok (.aload_n 0, 1) := by decide +kernel
theorem dX4_fallenError_1 : decode cX4_fallenError 1 = .ok (.iload_n 1, 1) := by decide +kernel
theorem dX4_fallenError_2 : decode cX4_fallenError 2 = .ok (.invokevirtual 67, 3) := by decide +kernel
theorem dX4_fallenError_5 : decode cX4_fallenError 5 = .ok (.ifCond .ne 5, 3) := by decide +kernel
theorem dX4_fallenError_8 : decode cX4_fallenError 8 = .ok (.iconst (-1), 1) := by decide +kernel
theorem dX4_fallenError_9 : decode cX4_fallenError 9 = .ok (.ireturn, 1) := by decide +kernel
theorem dX4_fallenError_10 : decode cX4_fallenError 10 = .ok (.aload_n 0, 1) := by decide +kernel
theorem dX4_fallenError_11 : decode cX4_fallenError 11 = .ok (.getfield 36, 3) := by decide +kernel
theorem dX4_fallenError_14 : decode cX4_fallenError 14 = .ok (.iload_n 1, 1) := by decide +kernel
theorem dX4_fallenError_15 : decode cX4_fallenError 15 = .ok (.iaload, 1) := by decide +kernel
theorem dX4_fallenError_16 : decode cX4_fallenError 16 = .ok (.iconst 1, 1) := by decide +kernel
theorem dX4_fallenError_17 : decode cX4_fallenError 17 = .ok (.if_icmp .ne 7, 3) := by decide +kernel
theorem dX4_fallenError_20 : decode cX4_fallenError 20 = .ok (.iconst 0, 1) := by decide +kernel
theorem dX4_fallenError_21 : decode cX4_fallenError 21 = .ok (.goto 5, 3) := by decide +kernel
theorem dX4_fallenError_24 : decode cX4_fallenError 24 = .ok (.bipush (-4), 2) := by decide +kernel
theorem dX4_fallenError_26 : decode cX4_fallenError 26 = .ok (.ireturn, 1) := by decide +kernel
theorem dX4_addConker_0 : decode cX4_addConker 0 = .ok (.aload_n 0, 1) := by decide +kernel
theorem dX4_addConker_1 : decode cX4_addConker 1 = .ok (.getfield 42, 3) := by decide +kernel
theorem dX4_addConker_4 : decode cX4_addConker 4 = .ok (.istore_n 3, 1) := by decide +kernel
theorem dX4_addConker_5 : decode cX4_addConker 5 = .ok (.aload_n 0, 1) := by decide +kernel
theorem dX4_addConker_6 : decode cX4_addConker 6 = .ok (.getfield 9, 3) := by decide +kernel
theorem dX4_addConker_9 : decode cX4_addConker 9 = .ok (.iload_n 1, 1) := by decide +kernel
theorem dX4_addConker_10 : decode cX4_addConker 10 = .ok (.dup2, 1) := by decide +kernel
theorem dX4_addConker_11 : decode cX4_addConker 11 = .ok (.iaload, 1) := by decide +kernel
theorem dX4_addConker_12 : decode cX4_addConker 12 = .ok (.iconst 1, 1) := by decide +kernel
theorem dX4_addConker_13 : decode cX4_addConker 13 = .ok (.isub, 1) := by decide +kernel
theorem dX4_addConker_14 : decode cX4_addConker 14 = .ok (.iastore, 1) := by decide +kernel
theorem dX4_addConker_15 : decode cX4_addConker 15 = .ok (.aload_n 0, 1) := by decide +kernel
theorem dX4_addConker_16 : decode cX4_addConker 16 = .ok (.getfield 18, 3) := by decide +kernel
theorem dX4_addConker_19 : decode cX4_addConker 19 = .ok (.iload_n 3, 1) := by decide +kernel
theorem dX4_addConker_20 : decode cX4_addConker 20 = .ok (.iload_n 1, 1) := by decide +kernel
theorem dX4_addConker_21 : decode cX4_addConker 21 = .ok (.iastore, 1) := by decide +kernel
theorem dX4_addConker_22 : decode cX4_addConker 22 = .ok (.aload_n 0, 1) := by decide +kernel
theorem dX4_addConker_23 : decode cX4_addConker 23 = .ok (.getfield 21, 3) := by decide +kernel
theorem dX4_addConker_26 : decode cX4_addConker 26 = .ok (.iload_n 3, 1) := by decide +kernel
theorem dX4_addConker_27 : decode cX4_addConker 27 = .ok (.iload_n 2, 1) := by decide +kernel
theorem dX4_addConker_28 : decode cX4_addConker 28 = .ok (.iastore, 1) := by decide +kernel
theorem dX4_addConker_29 : decode cX4_addConker 29 = .ok (.aload_n 0, 1) := by decide +kernel
theorem dX4_addConker_30 : decode cX4_addConker 30 = .ok (.getfield 24, 3) := by decide +kernel
theorem dX4_addConker_33 : decode cX4_addConker 33 = .ok (.iload_n 3, 1) := by decide +kernel
theorem dX4_addConker_34 : decode cX4_addConker 34 = .ok (.iconst 0, 1) := by decide +kernel
theorem dX4_addConker_35 : decode cX4_addConker 35 = .ok (.iastore, 1) := by decide +kernel
theorem dX4_addConker_36 : decode cX4_addConker 36 = .ok (.aload_n 0, 1) := by decide +kernel
theorem dX4_addConker_37 : decode cX4_addConker 37 = .ok (.getfield 27, 3) := by decide +kernel
theorem dX4_addConker_40 : decode cX4_addConker 40 = .ok (.iload_n 3, 1) := by decide +kernel
theorem dX4_addConker_41 : decode cX4_addConker 41 = .ok (.iconst 0, 1) := by decide +kernel
theorem dX4_addConker_42 : decode cX4_addConker 42 = .ok (.iastore, 1) := by decide +kernel
theorem dX4_addConker_43 : decode cX4_addConker 43 = .ok (.aload_n 0, 1) := by decide +kernel
theorem dX4_addConker_44 : decode cX4_addConker 44 = .ok (.getfield 30, 3) := by decide +kernel
theorem dX4_addConker_47 : decode cX4_addConker 47 = .ok (.iload_n 3, 1) := by decide +kernel
theorem dX4_addConker_48 : decode cX4_addConker 48 = .ok (.iconst 0, 1) := by decide +kernel
theorem dX4_addConker_49 : decode cX4_addConker 49 = .ok (.iastore, 1) := by decide +kernel
theorem dX4_addConker_50 : decode cX4_addConker 50 = .ok (.aload_n 0, 1) := by decide +kernel
theorem dX4_addConker_51 : decode cX4_addConker 51 = .ok (.getfield 33, 3) := by decide +kernel
theorem dX4_addConker_54 : decode cX4_addConker 54 = .ok (.iload_n 3, 1) := by decide +kernel
theorem dX4_addConker_55 : decode cX4_addConker 55 = .ok (.bipush (-5), 2) := by decide +kernel
theorem dX4_addConker_57 : decode cX4_addConker 57 = .ok (.iastore, 1) := by decide +kernel
theorem dX4_addConker_58 : decode cX4_addConker 58 = .ok (.aload_n 0, 1) := by decide +kernel
theorem dX4_addConker_59 : decode cX4_addConker 59 = .ok (.getfield 36, 3) := by decide +kernel
theorem dX4_addConker_62 : decode cX4_addConker 62 = .ok (.iload_n 3, 1) := by decide +kernel
theorem dX4_addConker_63 : decode cX4_addConker 63 = .ok (.iconst 0, 1) := by decide +kernel
theorem dX4_addConker_64 : decode cX4_addConker 64 = .ok (.iastore, 1) := by decide +kernel
theorem dX4_addConker_65 : decode cX4_addConker 65 = .ok (.aload_n 0, 1) := by decide +kernel
theorem dX4_addConker_66 : decode cX4_addConker 66 = .ok (.getfield 39, 3) := by decide +kernel
theorem dX4_addConker_69 : decode cX4_addConker 69 = .ok (.iload_n 3, 1) := by decide +kernel
theorem dX4_addConker_70 : decode cX4_addConker 70 = .ok (.bipush (-5), 2) := by decide +kernel
theorem dX4_addConker_72 : decode cX4_addConker 72 = .ok (.iastore, 1) := by decide +kernel
theorem dX4_addConker_73 : decode cX4_addConker 73 = .ok (.aload_n 0, 1) := by decide +kernel
theorem dX4_addConker_74 : decode cX4_addConker 74 = .ok (.dup, 1) := by decide +kernel
theorem dX4_addConker_75 : decode cX4_addConker 75 = .ok (.getfield 42, 3) := by decide +kernel
theorem dX4_addConker_78 : decode cX4_addConker 78 = .ok (.iconst 1, 1) := by decide +kernel
theorem dX4_addConker_79 : decode cX4_addConker 79 = .ok (.iadd, 1) := by decide +kernel
theorem dX4_addConker_80 : decode cX4_addConker 80 = .ok (.putfield 42, 3) := by decide +kernel
theorem dX4_addConker_83 : decode cX4_addConker 83 = .ok (.iload_n 3, 1) := by decide +kernel
theorem dX4_addConker_84 : decode cX4_addConker 84 = .ok (.ireturn, 1) := by decide +kernel
theorem dX4_threadAgain_0 : decode cX4_threadAgain 0 = .ok (.aload_n 0, 1) := by decide +kernel
theorem dX4_threadAgain_1 : decode cX4_threadAgain 1 = .ok (.getfield 18, 3) := by decide +kernel
theorem dX4_threadAgain_4 : decode cX4_threadAgain 4 = .ok (.iload_n 1, 1) := by decide +kernel
theorem dX4_threadAgain_5 : decode cX4_threadAgain 5 = .ok (.iaload, 1) := by decide +kernel
theorem dX4_threadAgain_6 : decode cX4_threadAgain 6 = .ok (.istore_n 2, 1) := by decide +kernel
theorem dX4_threadAgain_7 : decode cX4_threadAgain 7 = .ok (.aload_n 0, 1) := by decide +kernel
theorem dX4_threadAgain_8 : decode cX4_threadAgain 8 = .ok (.getfield 9, 3) := by decide +kernel
theorem dX4_threadAgain_11 : decode cX4_threadAgain 11 = .ok (.iload_n 2, 1) := by decide +kernel
theorem dX4_threadAgain_12 : decode cX4_threadAgain 12 = .ok (.dup2, 1) := by decide +kernel
theorem dX4_threadAgain_13 : decode cX4_threadAgain 13 = .ok (.iaload, 1) := by decide +kernel
theorem dX4_threadAgain_14 : decode cX4_threadAgain 14 = .ok (.iconst 1, 1) := by decide +kernel
theorem dX4_threadAgain_15 : decode cX4_threadAgain 15 = .ok (.isub, 1) := by decide +kernel
theorem dX4_threadAgain_16 : decode cX4_threadAgain 16 = .ok (.iastore, 1) := by decide +kernel
theorem dX4_threadAgain_17 : decode cX4_threadAgain 17 = .ok (.aload_n 0, 1) := by decide +kernel
theorem dX4_threadAgain_18 : decode cX4_threadAgain 18 = .ok (.getfield 27, 3) := by decide +kernel
theorem dX4_threadAgain_21 : decode cX4_threadAgain 21 = .ok (.iload_n 1, 1) := by decide +kernel
theorem dX4_threadAgain_22 : decode cX4_threadAgain 22 = .ok (.iconst 0, 1) := by decide +kernel
theorem dX4_threadAgain_23 : decode cX4_threadAgain 23 = .ok (.iastore, 1) := by decide +kernel
theorem dX4_threadAgain_24 : decode cX4_threadAgain 24 = .ok (.aload_n 0, 1) := by decide +kernel
theorem dX4_threadAgain_25 : decode cX4_threadAgain 25 = .ok (.getfield 36, 3) := by decide +kernel
theorem dX4_threadAgain_28 : decode cX4_threadAgain 28 = .ok (.iload_n 1, 1) := by decide +kernel
theorem dX4_threadAgain_29 : decode cX4_threadAgain 29 = .ok (.iconst 0, 1) := by decide +kernel
theorem dX4_threadAgain_30 : decode cX4_threadAgain 30 = .ok (.iastore, 1) := by decide +kernel
theorem dX4_threadAgain_31 : decode cX4_threadAgain 31 = .ok (.aload_n 0, 1) := by decide +kernel
theorem dX4_threadAgain_32 : decode cX4_threadAgain 32 = .ok (.getfield 9, 3) := by decide +kernel
theorem dX4_threadAgain_35 : decode cX4_threadAgain 35 = .ok (.iload_n 2, 1) := by decide +kernel
theorem dX4_threadAgain_36 : decode cX4_threadAgain 36 = .ok (.iaload, 1) := by decide +kernel
theorem dX4_threadAgain_37 : decode cX4_threadAgain 37 = .ok (.ireturn, 1) := by decide +kernel
set_option maxRecDepth 20000 in
theorem ggX4_crush_X4_takeVictoriesOfSmashed : GoodIn wsX4_crush wsX4_takeVictoriesOfSmashed := goodIn_r _ [6, 7, 8, 9, 10, 11, 12, 13, 14, 15, 16, 17, 18, 19, 20, 21, 22] (by decide +kernel) (by decide +kernel)
set_option maxRecDepth 20000 in
theorem gX4_crush_X4_takeVictoriesOfSmashed : GoodIn wsX4_crush (wsV RX4 79 RX4 yX4_takeVictoriesOfSmashed wsX4_takeVictoriesOfSmashed) := goodIn_app (goodIn_of _ (by decide +kernel)) ggX4_crush_X4_takeVictoriesOfSmashed
theorem dX4_crush_0 : decode cX4_crush 0 = .ok (.aload_n 0, 1) := by decide +kernel
theorem dX4_crush_1 : decode cX4_crush 1 = .ok (.iload_n 1, 1) := by decide +kernel
theorem dX4_crush_2 : decode cX4_crush 2 = .ok (.invokevirtual 79, 3) := by decide +kernel
theorem dX4_crush_5 : decode cX4_crush 5 = .ok (.istore_n 2, 1) := by decide +kernel
theorem dX4_crush_6 : decode cX4_crush 6 = .ok (.aload_n 0, 1) := by decide +kernel
theorem dX4_crush_7 : decode cX4_crush 7 = .ok (.dup, 1) := by decide +kernel
theorem dX4_crush_8 : decode cX4_crush 8 = .ok (.getfield 46, 3) := by decide +kernel
theorem dX4_crush_11 : decode cX4_crush 11 = .ok (.iload_n 2, 1) := by decide +kernel
theorem dX4_crush_12 : decode cX4_crush 12 = .ok (.iadd, 1) := by decide +kernel
theorem dX4_crush_13 : decode cX4_crush 13 = .ok (.putfield 46, 3) := by decide +kernel
theorem dX4_crush_16 : decode cX4_crush 16 = .ok (.iload_n 2, 1) := by decide +kernel
theorem dX4_crush_17 : decode cX4_crush 17 = .ok (.ireturn, 1) := by decide +kernel
theorem dX4_settleBoast_0 : decode cX4_settleBoast 0 = .ok (.aload_n 0, 1) := by decide +kernel
theorem dX4_settleBoast_1 : decode cX4_settleBoast 1 = .ok (.getfield 33, 3) := by decide +kernel
theorem dX4_settleBoast_4 : decode cX4_settleBoast 4 = .ok (.iload_n 2, 1) := by decide +kernel
theorem dX4_settleBoast_5 : decode cX4_settleBoast 5 = .ok (.iaload, 1) := by decide +kernel
theorem dX4_settleBoast_6 : decode cX4_settleBoast 6 = .ok (.aload_n 0, 1) := by decide +kernel
theorem dX4_settleBoast_7 : decode cX4_settleBoast 7 = .ok (.getfield 30, 3) := by decide +kernel
theorem dX4_settleBoast_10 : decode cX4_settleBoast 10 = .ok (.iload_n 2, 1) := by decide +kernel
theorem dX4_settleBoast_11 : decode cX4_settleBoast 11 = .ok (.iaload, 1) := by decide +kernel
theorem dX4_settleBoast_12 : decode cX4_settleBoast 12 = .ok (.if_icmp .le 12, 3) := by decide +kernel
theorem dX4_settleBoast_15 : decode cX4_settleBoast 15 = .ok (.aload_n 0, 1) := by decide +kernel
theorem dX4_settleBoast_16 : decode cX4_settleBoast 16 = .ok (.getfield 18, 3) := by decide +kernel
theorem dX4_settleBoast_19 : decode cX4_settleBoast 19 = .ok (.iload_n 2, 1) := by decide +kernel
theorem dX4_settleBoast_20 : decode cX4_settleBoast 20 = .ok (.iaload, 1) := by decide +kernel
theorem dX4_settleBoast_21 : decode cX4_settleBoast 21 = .ok (.goto 4, 3) := by decide +kernel
theorem dX4_settleBoast_24 : decode cX4_settleBoast 24 = .ok (.iload_n 1, 1) := by decide +kernel
theorem dX4_settleBoast_25 : decode cX4_settleBoast 25 = .ok (.istore_n 3, 1) := by decide +kernel
theorem dX4_settleBoast_26 : decode cX4_settleBoast 26 = .ok (.aload_n 0, 1) := by decide +kernel
theorem dX4_settleBoast_27 : decode cX4_settleBoast 27 = .ok (.getfield 15, 3) := by decide +kernel
theorem dX4_settleBoast_30 : decode cX4_settleBoast 30 = .ok (.iload_n 3, 1) := by decide +kernel
theorem dX4_settleBoast_31 : decode cX4_settleBoast 31 = .ok (.dup2, 1) := by decide +kernel
theorem dX4_settleBoast_32 : decode cX4_settleBoast 32 = .ok (.iaload, 1) := by decide +kernel
theorem dX4_settleBoast_33 : decode cX4_settleBoast 33 = .ok (.iconst 1, 1) := by decide +kernel
theorem dX4_settleBoast_34 : decode cX4_settleBoast 34 = .ok (.iadd, 1) := by decide +kernel
theorem dX4_settleBoast_35 : decode cX4_settleBoast 35 = .ok (.iastore, 1) := by decide +kernel
theorem dX4_settleBoast_36 : decode cX4_settleBoast 36 = .ok (.aload_n 0, 1) := by decide +kernel
theorem dX4_settleBoast_37 : decode cX4_settleBoast 37 = .ok (.getfield 33, 3) := by decide +kernel
theorem dX4_settleBoast_40 : decode cX4_settleBoast 40 = .ok (.iload_n 2, 1) := by decide +kernel
theorem dX4_settleBoast_41 : decode cX4_settleBoast 41 = .ok (.bipush (-5), 2) := by decide +kernel
theorem dX4_settleBoast_43 : decode cX4_settleBoast 43 = .ok (.iastore, 1) := by decide +kernel
theorem dX4_settleBoast_44 : decode cX4_settleBoast 44 = .ok (.iload_n 3, 1) := by decide +kernel
theorem dX4_settleBoast_45 : decode cX4_settleBoast 45 = .ok (.ireturn, 1) := by decide +kernel
set_option maxRecDepth 20000 in
theorem ggX4_hit_X4_quotient : GoodIn wsX4_hit wsX4_quotient := goodIn_r _ [12] (by decide +kernel) (by decide +kernel)
set_option maxRecDepth 20000 in
theorem gX4_hit_X4_quotient : GoodIn wsX4_hit (va_wsS RX4 82 yX4_quotient wsX4_quotient) := goodIn_app (goodIn_of _ (by decide +kernel)) ggX4_hit_X4_quotient
set_option maxRecDepth 20000 in
theorem ggX4_hit_X4_settleSmashes : GoodIn wsX4_hit wsX4_settleSmashes := goodIn_r _ [16, 3, 17, 18, 19, 11, 20, 21, 22, 23, 24, 25, 26, 27, 28, 29, 30, 31, 32, 33, 42, 43, 44, 45, 46, 47, 48, 49, 50, 51, 52, 53, 54] (by decide +kernel) (by decide +kernel)
set_option maxRecDepth 20000 in
theorem gX4_hit_X4_settleSmashes : GoodIn wsX4_hit (wsV RX4 91 RX4 yX4_settleSmashes wsX4_settleSmashes) := goodIn_app (goodIn_of _ (by decide +kernel)) ggX4_hit_X4_settleSmashes
set_option maxRecDepth 20000 in
theorem ggX4_hit_X4_fallIfWorn : GoodIn wsX4_hit wsX4_fallIfWorn := goodIn_r _ [37, 28, 8, 42, 43, 44, 45, 46, 47, 48, 49, 50, 51, 52, 53, 54] (by decide +kernel) (by decide +kernel)
set_option maxRecDepth 20000 in
theorem gX4_hit_X4_fallIfWorn : GoodIn wsX4_hit (wsV RX4 95 RX4 yX4_fallIfWorn wsX4_fallIfWorn) := goodIn_app (goodIn_of _ (by decide +kernel)) ggX4_hit_X4_fallIfWorn
set_option maxRecDepth 20000 in
theorem ggX4_hit_X4_outcome : GoodIn wsX4_hit wsX4_outcome := goodIn_r _ [41, 28, 42, 43, 44, 45, 46, 47, 48, 49, 50, 51, 52, 53, 54] (by decide +kernel) (by decide +kernel)
set_option maxRecDepth 20000 in
theorem gX4_hit_X4_outcome : GoodIn wsX4_hit (wsV RX4 99 RX4 yX4_outcome wsX4_outcome) := goodIn_app (goodIn_of _ (by decide +kernel)) ggX4_hit_X4_outcome
theorem dX4_hit_0 : decode cX4_hit 0 = .ok (.iload_n 3, 1) := by decide +kernel
theorem dX4_hit_1 : decode cX4_hit 1 = .ok (.aload_n 0, 1) := by decide +kernel
theorem dX4_hit_2 : decode cX4_hit 2 = .ok (.getfield 21, 3) := by decide +kernel
theorem dX4_hit_5 : decode cX4_hit 5 = .ok (.iload_n 1, 1) := by decide +kernel
theorem dX4_hit_6 : decode cX4_hit 6 = .ok (.iaload, 1) := by decide +kernel
theorem dX4_hit_7 : decode cX4_hit 7 = .ok (.imul, 1) := by decide +kernel
theorem dX4_hit_8 : decode cX4_hit 8 = .ok (.aload_n 0, 1) := by decide +kernel
theorem dX4_hit_9 : decode cX4_hit 9 = .ok (.getfield 21, 3) := by decide +kernel
theorem dX4_hit_12 : decode cX4_hit 12 = .ok (.iload_n 2, 1) := by decide +kernel
theorem dX4_hit_13 : decode cX4_hit 13 = .ok (.iaload, 1) := by decide +kernel
theorem dX4_hit_14 : decode cX4_hit 14 = .ok (.invokestatic 82, 3) := by decide +kernel
theorem dX4_hit_17 : decode cX4_hit 17 = .ok (.istore 4, 2) := by decide +kernel
theorem dX4_hit_19 : decode cX4_hit 19 = .ok (.iload_n 3, 1) := by decide +kernel
theorem dX4_hit_20 : decode cX4_hit 20 = .ok (.aload_n 0, 1) := by decide +kernel
theorem dX4_hit_21 : decode cX4_hit 21 = .ok (.getfield 21, 3) := by decide +kernel
theorem dX4_hit_24 : decode cX4_hit 24 = .ok (.iload_n 2, 1) := by decide +kernel
theorem dX4_hit_25 : decode cX4_hit 25 = .ok (.iaload, 1) := by decide +kernel
theorem dX4_hit_26 : decode cX4_hit 26 = .ok (.imul, 1) := by decide +kernel
theorem dX4_hit_27 : decode cX4_hit 27 = .ok (.iconst 2, 1) := by decide +kernel
theorem dX4_hit_28 : decode cX4_hit 28 = .ok (.aload_n 0, 1) := by decide +kernel
theorem dX4_hit_29 : decode cX4_hit 29 = .ok (.getfield 21, 3) := by decide +kernel
theorem dX4_hit_32 : decode cX4_hit 32 = .ok (.iload_n 1, 1) := by decide +kernel
theorem dX4_hit_33 : decode cX4_hit 33 = .ok (.iaload, 1) := by decide +kernel
theorem dX4_hit_34 : decode cX4_hit 34 = .ok (.imul, 1) := by decide +kernel
theorem dX4_hit_35 : decode cX4_hit 35 = .ok (.invokestatic 82, 3) := by decide +kernel
theorem dX4_hit_38 : decode cX4_hit 38 = .ok (.istore 5, 2) := by decide +kernel
theorem dX4_hit_40 : decode cX4_hit 40 = .ok (.aload_n 0, 1) := by decide +kernel
theorem dX4_hit_41 : decode cX4_hit 41 = .ok (.dup, 1) := by decide +kernel
theorem dX4_hit_42 : decode cX4_hit 42 = .ok (.getfield 49, 3) := by decide +kernel
theorem dX4_hit_45 : decode cX4_hit 45 = .ok (.iconst 1, 1) := by decide +kernel
theorem dX4_hit_46 : decode cX4_hit 46 = .ok (.iadd, 1) := by decide +kernel
theorem dX4_hit_47 : decode cX4_hit 47 = .ok (.putfield 49, 3) := by decide +kernel
theorem dX4_hit_50 : decode cX4_hit 50 = .ok (.aload_n 0, 1) := by decide +kernel
theorem dX4_hit_51 : decode cX4_hit 51 = .ok (.getfield 24, 3) := by decide +kernel
theorem dX4_hit_54 : decode cX4_hit 54 = .ok (.iload_n 2, 1) := by decide +kernel
theorem dX4_hit_55 : decode cX4_hit 55 = .ok (.aload_n 0, 1) := by decide +kernel
theorem dX4_hit_56 : decode cX4_hit 56 = .ok (.getfield 24, 3) := by decide +kernel
theorem dX4_hit_59 : decode cX4_hit 59 = .ok (.iload_n 2, 1) := by decide +kernel
theorem dX4_hit_60 : decode cX4_hit 60 = .ok (.iaload, 1) := by decide +kernel
theorem dX4_hit_61 : decode cX4_hit 61 = .ok (.iload 4, 2) := by decide +kernel
theorem dX4_hit_63 : decode cX4_hit 63 = .ok (.iadd, 1) := by decide +kernel
theorem dX4_hit_64 : decode cX4_hit 64 = .ok (.bipush 100, 2) := by decide +kernel
theorem dX4_hit_66 : decode cX4_hit 66 = .ok (.invokestatic 86, 3) := by decide +kernel
theorem dX4_hit_69 : decode cX4_hit 69 = .ok (.iastore, 1) := by decide +kernel
theorem dX4_hit_70 : decode cX4_hit 70 = .ok (.aload_n 0, 1) := by decide +kernel
theorem dX4_hit_71 : decode cX4_hit 71 = .ok (.getfield 24, 3) := by decide +kernel
theorem dX4_hit_74 : decode cX4_hit 74 = .ok (.iload_n 1, 1) := by decide +kernel
theorem dX4_hit_75 : decode cX4_hit 75 = .ok (.aload_n 0, 1) := by decide +kernel
theorem dX4_hit_76 : decode cX4_hit 76 = .ok (.getfield 24, 3) := by decide +kernel
theorem dX4_hit_79 : decode cX4_hit 79 = .ok (.iload_n 1, 1) := by decide +kernel
theorem dX4_hit_80 : decode cX4_hit 80 = .ok (.iaload, 1) := by decide +kernel
theorem dX4_hit_81 : decode cX4_hit 81 = .ok (.iload 5, 2) := by decide +kernel
theorem dX4_hit_83 : decode cX4_hit 83 = .ok (.iadd, 1) := by decide +kernel
theorem dX4_hit_84 : decode cX4_hit 84 = .ok (.bipush 100, 2) := by decide +kernel
theorem dX4_hit_86 : decode cX4_hit 86 = .ok (.invokestatic 86, 3) := by decide +kernel
theorem dX4_hit_89 : decode cX4_hit 89 = .ok (.iastore, 1) := by decide +kernel
theorem dX4_hit_90 : decode cX4_hit 90 = .ok (.aload_n 0, 1) := by decide +kernel
theorem dX4_hit_91 : decode cX4_hit 91 = .ok (.getfield 27, 3) := by decide +kernel
theorem dX4_hit_94 : decode cX4_hit 94 = .ok (.iload_n 1, 1) := by decide +kernel
theorem dX4_hit_95 : decode cX4_hit 95 = .ok (.aload_n 0, 1) := by decide +kernel
theorem dX4_hit_96 : decode cX4_hit 96 = .ok (.getfield 27, 3) := by decide +kernel
theorem dX4_hit_99 : decode cX4_hit 99 = .ok (.iload_n 1, 1) := by decide +kernel
theorem dX4_hit_100 : decode cX4_hit 100 = .ok (.iaload, 1) := by decide +kernel
theorem dX4_hit_101 : decode cX4_hit 101 = .ok (.iload_n 3, 1) := by decide +kernel
theorem dX4_hit_102 : decode cX4_hit 102 = .ok (.bipush 6, 2) := by decide +kernel
theorem dX4_hit_104 : decode cX4_hit 104 = .ok (.if_icmp .le 7, 3) := by decide +kernel
theorem dX4_hit_107 : decode cX4_hit 107 = .ok (.iconst 2, 1) := by decide +kernel
theorem dX4_hit_108 : decode cX4_hit 108 = .ok (.goto 4, 3) := by decide +kernel
theorem dX4_hit_111 : decode cX4_hit 111 = .ok (.iconst 1, 1) := by decide +kernel
theorem dX4_hit_112 : decode cX4_hit 112 = .ok (.iadd, 1) := by decide +kernel
theorem dX4_hit_113 : decode cX4_hit 113 = .ok (.bipush 20, 2) := by decide +kernel
theorem dX4_hit_115 : decode cX4_hit 115 = .ok (.invokestatic 86, 3) := by decide +kernel
theorem dX4_hit_118 : decode cX4_hit 118 = .ok (.iastore, 1) := by decide +kernel
theorem dX4_hit_119 : decode cX4_hit 119 = .ok (.aload_n 0, 1) := by decide +kernel
theorem dX4_hit_120 : decode cX4_hit 120 = .ok (.getfield 27, 3) := by decide +kernel
theorem dX4_hit_123 : decode cX4_hit 123 = .ok (.iload_n 2, 1) := by decide +kernel
theorem dX4_hit_124 : decode cX4_hit 124 = .ok (.aload_n 0, 1) := by decide +kernel
theorem dX4_hit_125 : decode cX4_hit 125 = .ok (.getfield 27, 3) := by decide +kernel
theorem dX4_hit_128 : decode cX4_hit 128 = .ok (.iload_n 2, 1) := by decide +kernel
theorem dX4_hit_129 : decode cX4_hit 129 = .ok (.iaload, 1) := by decide +kernel
theorem dX4_hit_130 : decode cX4_hit 130 = .ok (.iconst 1, 1) := by decide +kernel
theorem dX4_hit_131 : decode cX4_hit 131 = .ok (.iadd, 1) := by decide +kernel
theorem dX4_hit_132 : decode cX4_hit 132 = .ok (.bipush 20, 2) := by decide +kernel
theorem dX4_hit_134 : decode cX4_hit 134 = .ok (.invokestatic 86, 3) := by decide +kernel
theorem dX4_hit_137 : decode cX4_hit 137 = .ok (.iastore, 1) := by decide +kernel
theorem dX4_hit_138 : decode cX4_hit 138 = .ok (.aload_n 0, 1) := by decide +kernel
theorem dX4_hit_139 : decode cX4_hit 139 = .ok (.iload_n 1, 1) := by decide +kernel
theorem dX4_hit_140 : decode cX4_hit 140 = .ok (.iload_n 2, 1) := by decide +kernel
theorem dX4_hit_141 : decode cX4_hit 141 = .ok (.invokevirtual 91, 3) := by decide +kernel
theorem dX4_hit_144 : decode cX4_hit 144 = .ok (.aload_n 0, 1) := by decide +kernel
theorem dX4_hit_145 : decode cX4_hit 145 = .ok (.iload_n 1, 1) := by decide +kernel
theorem dX4_hit_146 : decode cX4_hit 146 = .ok (.invokevirtual 95, 3) := by decide +kernel
theorem dX4_hit_149 : decode cX4_hit 149 = .ok (.aload_n 0, 1) := by decide +kernel
theorem dX4_hit_150 : decode cX4_hit 150 = .ok (.iload_n 2, 1) := by decide +kernel
theorem dX4_hit_151 : decode cX4_hit 151 = .ok (.invokevirtual 95, 3) := by decide +kernel
theorem dX4_hit_154 : decode cX4_hit 154 = .ok (.aload_n 0, 1) := by decide +kernel
theorem dX4_hit_155 : decode cX4_hit 155 = .ok (.iload_n 1, 1) := by decide +kernel
theorem dX4_hit_156 : decode cX4_hit 156 = .ok (.iconst 1, 1) := by decide +kernel
theorem dX4_hit_157 : decode cX4_hit 157 = .ok (.iconst 4, 1) := by decide +kernel
theorem dX4_hit_158 : decode cX4_hit 158 = .ok (.invokevirtual 99, 3) := by decide +kernel
theorem dX4_hit_161 : decode cX4_hit 161 = .ok (.aload_n 0, 1) := by decide +kernel
theorem dX4_hit_162 : decode cX4_hit 162 = .ok (.iload_n 2, 1) := by decide +kernel
theorem dX4_hit_163 : decode cX4_hit 163 = .ok (.iconst 2, 1) := by decide +kernel
theorem dX4_hit_164 : decode cX4_hit 164 = .ok (.bipush 8, 2) := by decide +kernel
theorem dX4_hit_166 : decode cX4_hit 166 = .ok (.invokevirtual 99, 3) := by decide +kernel
theorem dX4_hit_169 : decode cX4_hit 169 = .ok (.iadd, 1) := by decide +kernel
theorem dX4_hit_170 : decode cX4_hit 170 = .ok (.ireturn, 1) := by decide +kernel
set_option maxRecDepth 20000 in
theorem ggX4_fight_X4_areInPlay : GoodIn wsX4_fight wsX4_areInPlay := goodIn_r _ [12, 13, 64, 65, 66, 67, 68, 69, 70, 71, 72, 73, 74, 75, 76] (by decide +kernel) (by decide +kernel)
set_option maxRecDepth 20000 in
theorem gX4_fight_X4_areInPlay : GoodIn wsX4_fight (wsV RX4 71 RX4 yX4_areInPlay wsX4_areInPlay) := goodIn_app (goodIn_of _ (by decide +kernel)) ggX4_fight_X4_areInPlay
set_option maxRecDepth 20000 in
theorem ggX4_fight_X0_swing : GoodIn wsX4_fight wsX0_swing := goodIn_r _ [18, 19, 20, 21, 17, 22, 23, 24, 77] (by decide +kernel) (by decide +kernel)
set_option maxRecDepth 20000 in
theorem gX4_fight_X0_swing : GoodIn wsX4_fight (wsV RX4 106 RX0 yX0_swing wsX0_swing) := goodIn_app (goodIn_of _ (by decide +kernel)) ggX4_fight_X0_swing
set_option maxRecDepth 20000 in
theorem ggX4_fight_X4_hit : GoodIn wsX4_fight wsX4_hit := goodIn_r _ [28, 29, 30, 31, 1, 2, 3, 4, 32, 33, 34, 11, 35, 36, 37, 38, 39, 40, 41, 42, 43, 44, 45, 46, 47, 48, 49, 50, 13, 51, 52, 53, 54, 55, 56, 57, 58, 59, 60, 61, 62, 63, 64, 65, 66, 67, 68, 69, 70, 71, 72, 73, 74, 75, 76] (by decide +kernel) (by decide +kernel)
set_option maxRecDepth 20000 in
theorem gX4_fight_X4_hit : GoodIn wsX4_fight (wsV RX4 112 RX4 yX4_hit wsX4_hit) := goodIn_app (goodIn_of _ (by decide +kernel)) ggX4_fight_X4_hit
theorem dX4_fight_0 : decode cX4_fight 0 = .ok (.iload_n 1, 1) := by decide +kernel
theorem dX4_fight_1 : decode cX4_fight 1 = .ok (.iload_n 2, 1) := by decide +kernel
theorem dX4_fight_2 : decode cX4_fight 2 = .ok (.invokestatic 86, 3) := by decide +kernel
theorem dX4_fight_5 : decode cX4_fight 5 = .ok (.istore 4, 2) := by decide +kernel
theorem dX4_fight_7 : decode cX4_fight 7 = .ok (.iload_n 1, 1) := by decide +kernel
theorem dX4_fight_8 : decode cX4_fight 8 = .ok (.iload_n 2, 1) := by decide +kernel
theorem dX4_fight_9 : decode cX4_fight 9 = .ok (.invokestatic 103, 3) := by decide +kernel
theorem dX4_fight_12 : decode cX4_fight 12 = .ok (.istore 5, 2) := by decide +kernel
theorem dX4_fight_14 : decode cX4_fight 14 = .ok (.iconst 0, 1) := by decide +kernel
theorem dX4_fight_15 : decode cX4_fight 15 = .ok (.istore 6, 2) := by decide +kernel
theorem dX4_fight_17 : decode cX4_fight 17 = .ok (.iload 6, 2) := by decide +kernel
theorem dX4_fight_19 : decode cX4_fight 19 = .ok (.bipush 20, 2) := by decide +kernel
theorem dX4_fight_21 : decode cX4_fight 21 = .ok (.if_icmp .ge 45, 3) := by decide +kernel
theorem dX4_fight_24 : decode cX4_fight 24 = .ok (.aload_n 0, 1) := by decide +kernel
theorem dX4_fight_25 : decode cX4_fight 25 = .ok (.iload 4, 2) := by decide +kernel
theorem dX4_fight_27 : decode cX4_fight 27 = .ok (.iload 5, 2) := by decide +kernel
theorem dX4_fight_29 : decode cX4_fight 29 = .ok (.invokevirtual 71, 3) := by decide +kernel
theorem dX4_fight_32 : decode cX4_fight 32 = .ok (.ifCond .eq 34, 3) := by decide +kernel
theorem dX4_fight_35 : decode cX4_fight 35 = .ok (.aload_n 0, 1) := by decide +kernel
theorem dX4_fight_36 : decode cX4_fight 36 = .ok (.iload 4, 2) := by decide +kernel
theorem dX4_fight_38 : decode cX4_fight 38 = .ok (.iload 5, 2) := by decide +kernel
theorem dX4_fight_40 : decode cX4_fight 40 = .ok (.aload_n 3, 1) := by decide +kernel
theorem dX4_fight_41 : decode cX4_fight 41 = .ok (.invokevirtual 106, 3) := by decide +kernel
theorem dX4_fight_44 : decode cX4_fight 44 = .ok (.invokevirtual 112, 3) := by decide +kernel
theorem dX4_fight_47 : decode cX4_fight 47 = .ok (.pop, 1) := by decide +kernel
theorem dX4_fight_48 : decode cX4_fight 48 = .ok (.iload 5, 2) := by decide +kernel
theorem dX4_fight_50 : decode cX4_fight 50 = .ok (.istore 7, 2) := by decide +kernel
theorem dX4_fight_52 : decode cX4_fight 52 = .ok (.iload 4, 2) := by decide +kernel
theorem dX4_fight_54 : decode cX4_fight 54 = .ok (.istore 5, 2) := by decide +kernel
theorem dX4_fight_56 : decode cX4_fight 56 = .ok (.iload 7, 2) := by decide +kernel
theorem dX4_fight_58 : decode cX4_fight 58 = .ok (.istore 4, 2) := by decide +kernel
theorem dX4_fight_60 : decode cX4_fight 60 = .ok (.iinc 6 1, 3) := by decide +kernel
theorem dX4_fight_63 : decode cX4_fight 63 = .ok (.goto (-46), 3) := by decide +kernel
theorem dX4_fight_66 : decode cX4_fight 66 = .ok (.iload 6, 2) := by decide +kernel
theorem dX4_fight_68 : decode cX4_fight 68 = .ok (.ireturn, 1) := by decide +kernel
set_option maxRecDepth 20000 in
theorem ggX4_settleSmashes_X4_crush : GoodIn wsX4_settleSmashes wsX4_crush := goodIn_r _ [6, 7, 8, 9, 10, 5, 11, 12, 13, 14, 20, 21, 22, 23, 24, 25, 26, 27, 28, 29, 30, 31, 32] (by decide +kernel) (by decide +kernel)
set_option maxRecDepth 20000 in
theorem gX4_settleSmashes_X4_crush : GoodIn wsX4_settleSmashes (wsV RX4 115 RX4 yX4_crush wsX4_crush) := goodIn_app (goodIn_of _ (by decide +kernel)) ggX4_settleSmashes_X4_crush
set_option maxRecDepth 20000 in
theorem ggX4_settleSmashes_X4_inherit : GoodIn wsX4_settleSmashes wsX4_inherit := goodIn_r _ [18, 12, 19, 8, 9, 10, 5, 11, 13, 14, 20, 21, 22, 23, 24, 25, 26, 27, 28, 29, 30, 31, 32] (by decide +kernel) (by decide +kernel)
set_option maxRecDepth 20000 in
theorem gX4_settleSmashes_X4_inherit : GoodIn wsX4_settleSmashes (wsV RX4 118 RX4 yX4_inherit wsX4_inherit) := goodIn_app (goodIn_of _ (by decide +kernel)) ggX4_settleSmashes_X4_inherit
theorem dX4_settleSmashes_0 : decode cX4_settleSmashes 0 = .ok (.aload_n 0, 1) := by decide +kernel
theorem dX4_settleSmashes_1 : decode cX4_settleSmashes 1 = .ok (.getfield 24, 3) := by decide +kernel
theorem dX4_settleSmashes_4 : decode cX4_settleSmashes 4 = .ok (.iload_n 1, 1) := by decide +kernel
theorem dX4_settleSmashes_5 : decode cX4_settleSmashes 5 = .ok (.iaload, 1) := by decide +kernel
theorem dX4_settleSmashes_6 : decode cX4_settleSmashes 6 = .ok (.bipush 100, 2) := by decide +kernel
theorem dX4_settleSmashes_8 : decode cX4_settleSmashes 8 = .ok (.if_icmp .ne 7, 3) := by decide +kernel
theorem dX4_settleSmashes_11 : decode cX4_settleSmashes 11 = .ok (.iconst 1, 1) := by decide +kernel
theorem dX4_settleSmashes_12 : decode cX4_settleSmashes 12 = .ok (.goto 4, 3) := by decide +kernel
theorem dX4_settleSmashes_15 : decode cX4_settleSmashes 15 = .ok (.iconst 0, 1) := by decide +kernel
theorem dX4_settleSmashes_16 : decode cX4_settleSmashes 16 = .ok (.istore_n 3, 1) := by decide +kernel
theorem dX4_settleSmashes_17 : decode cX4_settleSmashes 17 = .ok (.aload_n 0, 1) := by decide +kernel
theorem dX4_settleSmashes_18 : decode cX4_settleSmashes 18 = .ok (.getfield 24, 3) := by decide +kernel
theorem dX4_settleSmashes_21 : decode cX4_settleSmashes 21 = .ok (.iload_n 2, 1) := by decide +kernel
theorem dX4_settleSmashes_22 : decode cX4_settleSmashes 22 = .ok (.iaload, 1) := by decide +kernel
theorem dX4_settleSmashes_23 : decode cX4_settleSmashes 23 = .ok (.bipush 100, 2) := by decide +kernel
theorem dX4_settleSmashes_25 : decode cX4_settleSmashes 25 = .ok (.if_icmp .ne 7, 3) := by decide +kernel
theorem dX4_settleSmashes_28 : decode cX4_settleSmashes 28 = .ok (.iconst 1, 1) := by decide +kernel
theorem dX4_settleSmashes_29 : decode cX4_settleSmashes 29 = .ok (.goto 4, 3) := by decide +kernel
theorem dX4_settleSmashes_32 : decode cX4_settleSmashes 32 = .ok (.iconst 0, 1) := by decide +kernel
theorem dX4_settleSmashes_33 : decode cX4_settleSmashes 33 = .ok (.istore 4, 2) := by decide +kernel
theorem dX4_settleSmashes_35 : decode cX4_settleSmashes 35 = .ok (.iload_n 3, 1) := by decide +kernel
theorem dX4_settleSmashes_36 : decode cX4_settleSmashes 36 = .ok (.ifCond .eq 23, 3) := by decide +kernel
theorem dX4_settleSmashes_39 : decode cX4_settleSmashes 39 = .ok (.iload 4, 2) := by decide +kernel
theorem dX4_settleSmashes_41 : decode cX4_settleSmashes 41 = .ok (.ifCond .eq 18, 3) := by decide +kernel
theorem dX4_settleSmashes_44 : decode cX4_settleSmashes 44 = .ok (.aload_n 0, 1) := by decide +kernel
theorem dX4_settleSmashes_45 : decode cX4_settleSmashes 45 = .ok (.iload_n 1, 1) := by decide +kernel
theorem dX4_settleSmashes_46 : decode cX4_settleSmashes 46 = .ok (.invokevirtual 115, 3) := by decide +kernel
theorem dX4_settleSmashes_49 : decode cX4_settleSmashes 49 = .ok (.pop, 1) := by decide +kernel
theorem dX4_settleSmashes_50 : decode cX4_settleSmashes 50 = .ok (.aload_n 0, 1) := by decide +kernel
theorem dX4_settleSmashes_51 : decode cX4_settleSmashes 51 = .ok (.iload_n 2, 1) := by decide +kernel
theorem dX4_settleSmashes_52 : decode cX4_settleSmashes 52 = .ok (.invokevirtual 115, 3) := by decide +kernel
theorem dX4_settleSmashes_55 : decode cX4_settleSmashes 55 = .ok (.pop, 1) := by decide +kernel
theorem dX4_settleSmashes_56 : decode cX4_settleSmashes 56 = .ok (.goto 27, 3) := by decide +kernel
theorem dX4_settleSmashes_59 : decode cX4_settleSmashes 59 = .ok (.iload_n 3, 1) := by decide +kernel
theorem dX4_settleSmashes_60 : decode cX4_settleSmashes 60 = .ok (.ifCond .eq 12, 3) := by decide +kernel
theorem dX4_settleSmashes_63 : decode cX4_settleSmashes 63 = .ok (.aload_n 0, 1) := by decide +kernel
theorem dX4_settleSmashes_64 : decode cX4_settleSmashes 64 = .ok (.iload_n 2, 1) := by decide +kernel
theorem dX4_settleSmashes_65 : decode cX4_settleSmashes 65 = .ok (.iload_n 1, 1) := by decide +kernel
theorem dX4_settleSmashes_66 : decode cX4_settleSmashes 66 = .ok (.invokevirtual 118, 3) := by decide +kernel
theorem dX4_settleSmashes_69 : decode cX4_settleSmashes 69 = .ok (.goto 14, 3) := by decide +kernel
theorem dX4_settleSmashes_72 : decode cX4_settleSmashes 72 = .ok (.iload 4, 2) := by decide +kernel
theorem dX4_settleSmashes_74 : decode cX4_settleSmashes 74 = .ok (.ifCond .eq 9, 3) := by decide +kernel
theorem dX4_settleSmashes_77 : decode cX4_settleSmashes 77 = .ok (.aload_n 0, 1) := by decide +kernel
theorem dX4_settleSmashes_78 : decode cX4_settleSmashes 78 = .ok (.iload_n 1, 1) := by decide +kernel
theorem dX4_settleSmashes_79 : decode cX4_settleSmashes 79 = .ok (.iload_n 2, 1) := by decide +kernel
theorem dX4_settleSmashes_80 : decode cX4_settleSmashes 80 = .ok (.invokevirtual 118, 3) := by decide +kernel
theorem dX4_settleSmashes_83 : decode cX4_settleSmashes 83 = .ok (.return_, 1) := by decide +kernel
set_option maxRecDepth 20000 in
theorem ggX4_inherit_X4_takeVictoriesOfSmashed : GoodIn wsX4_inherit wsX4_takeVictoriesOfSmashed := goodIn_r _ [7, 1, 8, 9, 10, 11, 12, 13, 14, 15, 16, 17, 18, 19, 20, 21, 22] (by decide +kernel) (by decide +kernel)
set_option maxRecDepth 20000 in
theorem gX4_inherit_X4_takeVictoriesOfSmashed : GoodIn wsX4_inherit (wsV RX4 79 RX4 yX4_takeVictoriesOfSmashed wsX4_takeVictoriesOfSmashed) := goodIn_app (goodIn_of _ (by decide +kernel)) ggX4_inherit_X4_takeVictoriesOfSmashed
theorem dX4_inherit_0 : decode cX4_inherit 0 = .ok (.aload_n 0, 1) := by decide +kernel
theorem dX4_inherit_1 : decode cX4_inherit 1 = .ok (.getfield 30, 3) := by decide +kernel
theorem dX4_inherit_4 : decode cX4_inherit 4 = .ok (.iload_n 1, 1) := by decide +kernel
theorem dX4_inherit_5 : decode cX4_inherit 5 = .ok (.dup2, 1) := by decide +kernel
theorem dX4_inherit_6 : decode cX4_inherit 6 = .ok (.iaload, 1) := by decide +kernel
theorem dX4_inherit_7 : decode cX4_inherit 7 = .ok (.iconst 1, 1) := by decide +kernel
theorem dX4_inherit_8 : decode cX4_inherit 8 = .ok (.aload_n 0, 1) := by decide +kernel
theorem dX4_inherit_9 : decode cX4_inherit 9 = .ok (.iload_n 2, 1) := by decide +kernel
theorem dX4_inherit_10 : decode cX4_inherit 10 = .ok (.invokevirtual 79, 3) := by decide +kernel
theorem dX4_inherit_13 : decode cX4_inherit 13 = .ok (.iadd, 1) := by decide +kernel
theorem dX4_inherit_14 : decode cX4_inherit 14 = .ok (.iadd, 1) := by decide +kernel
theorem dX4_inherit_15 : decode cX4_inherit 15 = .ok (.iastore, 1) := by decide +kernel
theorem dX4_inherit_16 : decode cX4_inherit 16 = .ok (.aload_n 0, 1) := by decide +kernel
theorem dX4_inherit_17 : decode cX4_inherit 17 = .ok (.getfield 39, 3) := by decide +kernel
theorem dX4_inherit_20 : decode cX4_inherit 20 = .ok (.iload_n 2, 1) := by decide +kernel
theorem dX4_inherit_21 : decode cX4_inherit 21 = .ok (.iload_n 1, 1) := by decide +kernel
theorem dX4_inherit_22 : decode cX4_inherit 22 = .ok (.iastore, 1) := by decide +kernel
theorem dX4_inherit_23 : decode cX4_inherit 23 = .ok (.return_, 1) := by decide +kernel
theorem dX4_takeVictoriesOfSmashed_0 : decode cX4_takeVictoriesOfSmashed 0 = .ok (.aload_n 0, 1) := by decide +kernel
theorem dX4_takeVictoriesOfSmashed_1 : decode cX4_takeVictoriesOfSmashed 1 = .ok (.getfield 30, 3) := by decide +kernel
theorem dX4_takeVictoriesOfSmashed_4 : decode cX4_takeVictoriesOfSmashed 4 = .ok (.iload_n 1, 1) := by decide +kernel
theorem dX4_takeVictoriesOfSmashed_5 : decode cX4_takeVictoriesOfSmashed 5 = .ok (.iaload, 1) := by decide +kernel
theorem dX4_takeVictoriesOfSmashed_6 : decode cX4_takeVictoriesOfSmashed 6 = .ok (.istore_n 2, 1) := by decide +kernel
theorem dX4_takeVictoriesOfSmashed_7 : decode cX4_takeVictoriesOfSmashed 7 = .ok (.aload_n 0, 1) := by decide +kernel
theorem dX4_takeVictoriesOfSmashed_8 : decode cX4_takeVictoriesOfSmashed 8 = .ok (.getfield 30, 3) := by decide +kernel
theorem dX4_takeVictoriesOfSmashed_11 : decode cX4_takeVictoriesOfSmashed 11 = .ok (.iload_n 1, 1) := by decide +kernel
theorem dX4_takeVictoriesOfSmashed_12 : decode cX4_takeVictoriesOfSmashed 12 = .ok (.iconst 0, 1) := by decide +kernel
theorem dX4_takeVictoriesOfSmashed_13 : decode cX4_takeVictoriesOfSmashed 13 = .ok (.iastore, 1) := by decide +kernel
theorem dX4_takeVictoriesOfSmashed_14 : decode cX4_takeVictoriesOfSmashed 14 = .ok (.aload_n 0, 1) := by decide +kernel
theorem dX4_takeVictoriesOfSmashed_15 : decode cX4_takeVictoriesOfSmashed 15 = .ok (.getfield 33, 3) := by decide +kernel
theorem dX4_takeVictoriesOfSmashed_18 : decode cX4_takeVictoriesOfSmashed 18 = .ok (.iload_n 1, 1) := by decide +kernel
theorem dX4_takeVictoriesOfSmashed_19 : decode cX4_takeVictoriesOfSmashed 19 = .ok (.bipush (-5), 2) := by decide +kernel
theorem dX4_takeVictoriesOfSmashed_21 : decode cX4_takeVictoriesOfSmashed 21 = .ok (.iastore, 1) := by decide +kernel
theorem dX4_takeVictoriesOfSmashed_22 : decode cX4_takeVictoriesOfSmashed 22 = .ok (.aload_n 0, 1) := by decide +kernel
theorem dX4_takeVictoriesOfSmashed_23 : decode cX4_takeVictoriesOfSmashed 23 = .ok (.getfield 36, 3) := by decide +kernel
theorem dX4_takeVictoriesOfSmashed_26 : decode cX4_takeVictoriesOfSmashed 26 = .ok (.iload_n 1, 1) := by decide +kernel
theorem dX4_takeVictoriesOfSmashed_27 : decode cX4_takeVictoriesOfSmashed 27 = .ok (.iconst 2, 1) := by decide +kernel
theorem dX4_takeVictoriesOfSmashed_28 : decode cX4_takeVictoriesOfSmashed 28 = .ok (.iastore, 1) := by decide +kernel
theorem dX4_takeVictoriesOfSmashed_29 : decode cX4_takeVictoriesOfSmashed 29 = .ok (.iload_n 2, 1) := by decide +kernel
theorem dX4_takeVictoriesOfSmashed_30 : decode cX4_takeVictoriesOfSmashed 30 = .ok (.ireturn, 1) := by decide +kernel
theorem dX4_fallIfWorn_0 : decode cX4_fallIfWorn 0 = .ok (.aload_n 0, 1) := by decide +kernel
theorem dX4_fallIfWorn_1 : decode cX4_fallIfWorn 1 = .ok (.getfield 36, 3) := by decide +kernel
theorem dX4_fallIfWorn_4 : decode cX4_fallIfWorn 4 = .ok (.iload_n 1, 1) := by decide +kernel
theorem dX4_fallIfWorn_5 : decode cX4_fallIfWorn 5 = .ok (.iaload, 1) := by decide +kernel
theorem dX4_fallIfWorn_6 : decode cX4_fallIfWorn 6 = .ok (.ifCond .ne 21, 3) := by decide +kernel
theorem dX4_fallIfWorn_9 : decode cX4_fallIfWorn 9 = .ok (.aload_n 0, 1) := by decide +kernel
theorem dX4_fallIfWorn_10 : decode cX4_fallIfWorn 10 = .ok (.getfield 27, 3) := by decide +kernel
theorem dX4_fallIfWorn_13 : decode cX4_fallIfWorn 13 = .ok (.iload_n 1, 1) := by decide +kernel
theorem dX4_fallIfWorn_14 : decode cX4_fallIfWorn 14 = .ok (.iaload, 1) := by decide +kernel
theorem dX4_fallIfWorn_15 : decode cX4_fallIfWorn 15 = .ok (.bipush 20, 2) := by decide +kernel
theorem dX4_fallIfWorn_17 : decode cX4_fallIfWorn 17 = .ok (.if_icmp .ne 10, 3) := by decide +kernel
theorem dX4_fallIfWorn_20 : decode cX4_fallIfWorn 20 = .ok (.aload_n 0, 1) := by decide +kernel
theorem dX4_fallIfWorn_21 : decode cX4_fallIfWorn 21 = .ok (.getfield 36, 3) := by decide +kernel
theorem dX4_fallIfWorn_24 : decode cX4_fallIfWorn 24 = .ok (.iload_n 1, 1) := by decide +kernel
theorem dX4_fallIfWorn_25 : decode cX4_fallIfWorn 25 = .ok (.iconst 1, 1) := by decide +kernel
theorem dX4_fallIfWorn_26 : decode cX4_fallIfWorn 26 = .ok (.iastore, 1) := by decide +kernel
theorem dX4_fallIfWorn_27 : decode cX4_fallIfWorn 27 = .ok (.return_, 1) := by decide +kernel
theorem dX4_outcome_0 : decode cX4_outcome 0 = .ok (.aload_n 0, 1) := by decide +kernel
theorem dX4_outcome_1 : decode cX4_outcome 1 = .ok (.getfield 36, 3) := by decide +kernel
theorem dX4_outcome_4 : decode cX4_outcome 4 = .ok (.iload_n 1, 1) := by decide +kernel
theorem dX4_outcome_5 : decode cX4_outcome 5 = .ok (.iaload, 1) := by decide +kernel
theorem dX4_outcome_6 : decode cX4_outcome 6 = .ok (.iconst 2, 1) := by decide +kernel
theorem dX4_outcome_7 : decode cX4_outcome 7 = .ok (.if_icmp .ne 5, 3) := by decide +kernel
theorem dX4_outcome_10 : decode cX4_outcome 10 = .ok (.iload_n 2, 1) := by decide +kernel
theorem dX4_outcome_11 : decode cX4_outcome 11 = .ok (.ireturn, 1) := by decide +kernel
theorem dX4_outcome_12 : decode cX4_outcome 12 = .ok (.aload_n 0, 1) := by decide +kernel
theorem dX4_outcome_13 : decode cX4_outcome 13 = .ok (.getfield 36, 3) := by decide +kernel
theorem dX4_outcome_16 : decode cX4_outcome 16 = .ok (.iload_n 1, 1) := by decide +kernel
theorem dX4_outcome_17 : decode cX4_outcome 17 = .ok (.iaload, 1) := by decide +kernel
theorem dX4_outcome_18 : decode cX4_outcome 18 = .ok (.iconst 1, 1) := by decide +kernel
theorem dX4_outcome_19 : decode cX4_outcome 19 = .ok (.if_icmp .ne 7, 3) := by decide +kernel
theorem dX4_outcome_22 : decode cX4_outcome 22 = .ok (.iload_n 3, 1) := by decide +kernel
theorem dX4_outcome_23 : decode cX4_outcome 23 = .ok (.goto 4, 3) := by decide +kernel
theorem dX4_outcome_26 : decode cX4_outcome 26 = .ok (.iconst 0, 1) := by decide +kernel
theorem dX4_outcome_27 : decode cX4_outcome 27 = .ok (.ireturn, 1) := by decide +kernel
theorem dX4_quotient_0 : decode cX4_quotient 0 = .ok (.iload_n 1, 1) := by decide +kernel
theorem dX4_quotient_1 : decode cX4_quotient 1 = .ok (.iconst 1, 1) := by decide +kernel
theorem dX4_quotient_2 : decode cX4_quotient 2 = .ok (.if_icmp .ge 7, 3) := by decide +kernel
theorem dX4_quotient_5 : decode cX4_quotient 5 = .ok (.iconst 0, 1) := by decide +kernel
theorem dX4_quotient_6 : decode cX4_quotient 6 = .ok (.goto 6, 3) := by decide +kernel
theorem dX4_quotient_9 : decode cX4_quotient 9 = .ok (.iload_n 0, 1) := by decide +kernel
theorem dX4_quotient_10 : decode cX4_quotient 10 = .ok (.iload_n 1, 1) := by decide +kernel
theorem dX4_quotient_11 : decode cX4_quotient 11 = .ok (.idiv, 1) := by decide +kernel
theorem dX4_quotient_12 : decode cX4_quotient 12 = .ok (.ireturn, 1) := by decide +kernel
theorem dX4_areInPlay_0 : decode cX4_areInPlay 0 = .ok (.aload_n 0, 1) := by decide +kernel
theorem dX4_areInPlay_1 : decode cX4_areInPlay 1 = .ok (.getfield 36, 3) := by decide +kernel
theorem dX4_areInPlay_4 : decode cX4_areInPlay 4 = .ok (.iload_n 1, 1) := by decide +kernel
theorem dX4_areInPlay_5 : decode cX4_areInPlay 5 = .ok (.iaload, 1) := by decide +kernel
theorem dX4_areInPlay_6 : decode cX4_areInPlay 6 = .ok (.ifCond .ne 16, 3) := by decide +kernel
theorem dX4_areInPlay_9 : decode cX4_areInPlay 9 = .ok (.aload_n 0, 1) := by decide +kernel
theorem dX4_areInPlay_10 : decode cX4_areInPlay 10 = .ok (.getfield 36, 3) := by decide +kernel
theorem dX4_areInPlay_13 : decode cX4_areInPlay 13 = .ok (.iload_n 2, 1) := by decide +kernel
theorem dX4_areInPlay_14 : decode cX4_areInPlay 14 = .ok (.iaload, 1) := by decide +kernel
theorem dX4_areInPlay_15 : decode cX4_areInPlay 15 = .ok (.ifCond .ne 7, 3) := by decide +kernel
theorem dX4_areInPlay_18 : decode cX4_areInPlay 18 = .ok (.iconst 1, 1) := by decide +kernel
theorem dX4_areInPlay_19 : decode cX4_areInPlay 19 = .ok (.goto 4, 3) := by decide +kernel
theorem dX4_areInPlay_22 : decode cX4_areInPlay 22 = .ok (.iconst 0, 1) := by decide +kernel
theorem dX4_areInPlay_23 : decode cX4_areInPlay 23 = .ok (.ireturn, 1) := by decide +kernel
theorem dX4_isOf_0 : decode cX4_isOf 0 = .ok (.iload_n 2, 1) := by decide +kernel
theorem dX4_isOf_1 : decode cX4_isOf 1 = .ok (.iconst (-1), 1) := by decide +kernel
theorem dX4_isOf_2 : decode cX4_isOf 2 = .ok (.if_icmp .eq 13, 3) := by decide +kernel
theorem dX4_isOf_5 : decode cX4_isOf 5 = .ok (.aload_n 0, 1) := by decide +kernel
theorem dX4_isOf_6 : decode cX4_isOf 6 = .ok (.getfield 18, 3) := by decide +kernel
theorem dX4_isOf_9 : decode cX4_isOf 9 = .ok (.iload_n 1, 1) := by decide +kernel
theorem dX4_isOf_10 : decode cX4_isOf 10 = .ok (.iaload, 1) := by decide +kernel
theorem dX4_isOf_11 : decode cX4_isOf 11 = .ok (.iload_n 2, 1) := by decide +kernel
theorem dX4_isOf_12 : decode cX4_isOf 12 = .ok (.if_icmp .ne 7, 3) := by decide +kernel
theorem dX4_isOf_15 : decode cX4_isOf 15 = .ok (.iconst 1, 1) := by decide +kernel
theorem dX4_isOf_16 : decode cX4_isOf 16 = .ok (.goto 4, 3) := by decide +kernel
theorem dX4_isOf_19 : decode cX4_isOf 19 = .ok (.iconst 0, 1) := by decide +kernel
theorem dX4_isOf_20 : decode cX4_isOf 20 = .ok (.ireturn, 1) := by decide +kernel
set_option maxRecDepth 20000 in
theorem ggX4_conkersBeing_X4_isOf : GoodIn wsX4_conkersBeing wsX4_isOf := goodIn_r _ [7, 8, 9, 10, 11, 12, 13, 14, 15, 16, 17, 18, 19, 20, 21] (by decide +kernel) (by decide +kernel)
set_option maxRecDepth 20000 in
theorem gX4_conkersBeing_X4_isOf : GoodIn wsX4_conkersBeing (wsV RX4 121 RX4 yX4_isOf wsX4_isOf) := goodIn_app (goodIn_of _ (by decide +kernel)) ggX4_conkersBeing_X4_isOf
theorem dX4_conkersBeing_0 : decode cX4_conkersBeing 0 = .ok (.iconst 0, 1) := by decide +kernel
theorem dX4_conkersBeing_1 : decode cX4_conkersBeing 1 = .ok (.istore_n 3, 1) := by decide +kernel
theorem dX4_conkersBeing_2 : decode cX4_conkersBeing 2 = .ok (.iconst 0, 1) := by decide +kernel
theorem dX4_conkersBeing_3 : decode cX4_conkersBeing 3 = .ok (.istore 4, 2) := by decide +kernel
theorem dX4_conkersBeing_5 : decode cX4_conkersBeing 5 = .ok (.iload 4, 2) := by decide +kernel
theorem dX4_conkersBeing_7 : decode cX4_conkersBeing 7 = .ok (.aload_n 0, 1) := by decide +kernel
theorem dX4_conkersBeing_8 : decode cX4_conkersBeing 8 = .ok (.getfield 42, 3) := by decide +kernel
theorem dX4_conkersBeing_11 : decode cX4_conkersBeing 11 = .ok (.if_icmp .ge 33, 3) := by decide +kernel
theorem dX4_conkersBeing_14 : decode cX4_conkersBeing 14 = .ok (.aload_n 0, 1) := by decide +kernel
theorem dX4_conkersBeing_15 : decode cX4_conkersBeing 15 = .ok (.getfield 36, 3) := by decide +kernel
theorem dX4_conkersBeing_18 : decode cX4_conkersBeing 18 = .ok (.iload 4, 2) := by decide +kernel
theorem dX4_conkersBeing_20 : decode cX4_conkersBeing 20 = .ok (.iaload, 1) := by decide +kernel
theorem dX4_conkersBeing_21 : decode cX4_conkersBeing 21 = .ok (.iload_n 1, 1) := by decide +kernel
theorem dX4_conkersBeing_22 : decode cX4_conkersBeing 22 = .ok (.if_icmp .ne 16, 3) := by decide +kernel
theorem dX4_conkersBeing_25 : decode cX4_conkersBeing 25 = .ok (.aload_n 0, 1) := by decide +kernel
theorem dX4_conkersBeing_26 : decode cX4_conkersBeing 26 = .ok (.iload 4, 2) := by decide +kernel
theorem dX4_conkersBeing_28 : decode cX4_conkersBeing 28 = .ok (.iload_n 2, 1) := by decide +kernel
theorem dX4_conkersBeing_29 : decode cX4_conkersBeing 29 = .ok (.invokevirtual 121, 3) := by decide +kernel
theorem dX4_conkersBeing_32 : decode cX4_conkersBeing 32 = .ok (.ifCond .eq 6, 3) := by decide +kernel
theorem dX4_conkersBeing_35 : decode cX4_conkersBeing 35 = .ok (.iinc 3 1, 3) := by decide +kernel
theorem dX4_conkersBeing_38 : decode cX4_conkersBeing 38 = .ok (.iinc 4 1, 3) := by decide +kernel
theorem dX4_conkersBeing_41 : decode cX4_conkersBeing 41 = .ok (.goto (-36), 3) := by decide +kernel
theorem dX4_conkersBeing_44 : decode cX4_conkersBeing 44 = .ok (.iload_n 3, 1) := by decide +kernel
theorem dX4_conkersBeing_45 : decode cX4_conkersBeing 45 = .ok (.ireturn, 1) := by decide +kernel
set_option maxRecDepth 20000 in
theorem ggX4_victoriesOf_X4_isOf : GoodIn wsX4_victoriesOf wsX4_isOf := goodIn_r _ [7, 8, 9, 10, 11, 12, 13, 14, 15, 16, 17, 18, 19, 20, 21] (by decide +kernel) (by decide +kernel)
set_option maxRecDepth 20000 in
theorem gX4_victoriesOf_X4_isOf : GoodIn wsX4_victoriesOf (wsV RX4 121 RX4 yX4_isOf wsX4_isOf) := goodIn_app (goodIn_of _ (by decide +kernel)) ggX4_victoriesOf_X4_isOf
theorem dX4_victoriesOf_0 : decode cX4_victoriesOf 0 = .ok (.iconst 0, 1) := by decide +kernel
theorem dX4_victoriesOf_1 : decode cX4_victoriesOf 1 = .ok (.istore_n 2, 1) := by decide +kernel
theorem dX4_victoriesOf_2 : decode cX4_victoriesOf 2 = .ok (.iconst 0, 1) := by decide +kernel
theorem dX4_victoriesOf_3 : decode cX4_victoriesOf 3 = .ok (.istore_n 3, 1) := by decide +kernel
theorem dX4_victoriesOf_4 : decode cX4_victoriesOf 4 = .ok (.iload_n 3, 1) := by decide +kernel
theorem dX4_victoriesOf_5 : decode cX4_victoriesOf 5 = .ok (.aload_n 0, 1) := by decide +kernel
theorem dX4_victoriesOf_6 : decode cX4_victoriesOf 6 = .ok (.getfield 42, 3) := by decide +kernel
theorem dX4_victoriesOf_9 : decode cX4_victoriesOf 9 = .ok (.if_icmp .ge 27, 3) := by decide +kernel
theorem dX4_victoriesOf_12 : decode cX4_victoriesOf 12 = .ok (.aload_n 0, 1) := by decide +kernel
theorem dX4_victoriesOf_13 : decode cX4_victoriesOf 13 = .ok (.iload_n 3, 1) := by decide +kernel
theorem dX4_victoriesOf_14 : decode cX4_victoriesOf 14 = .ok (.iload_n 1, 1) := by decide +kernel
theorem dX4_victoriesOf_15 : decode cX4_victoriesOf 15 = .ok (.invokevirtual 121, 3) := by decide +kernel
theorem dX4_victoriesOf_18 : decode cX4_victoriesOf 18 = .ok (.ifCond .eq 12, 3) := by decide +kernel
theorem dX4_victoriesOf_21 : decode cX4_victoriesOf 21 = .ok (.iload_n 2, 1) := by decide +kernel
theorem dX4_victoriesOf_22 : decode cX4_victoriesOf 22 = .ok (.aload_n 0, 1) := by decide +kernel
theorem dX4_victoriesOf_23 : decode cX4_victoriesOf 23 = .ok (.getfield 30, 3) := by decide +kernel
theorem dX4_victoriesOf_26 : decode cX4_victoriesOf 26 = .ok (.iload_n 3, 1) := by decide +kernel
theorem dX4_victoriesOf_27 : decode cX4_victoriesOf 27 = .ok (.iaload, 1) := by decide +kernel
theorem dX4_victoriesOf_28 : decode cX4_victoriesOf 28 = .ok (.iadd, 1) := by decide +kernel
theorem dX4_victoriesOf_29 : decode cX4_victoriesOf 29 = .ok (.istore_n 2, 1) := by decide +kernel
theorem dX4_victoriesOf_30 : decode cX4_victoriesOf 30 = .ok (.iinc 3 1, 3) := by decide +kernel
theorem dX4_victoriesOf_33 : decode cX4_victoriesOf 33 = .ok (.goto (-29), 3) := by decide +kernel
theorem dX4_victoriesOf_36 : decode cX4_victoriesOf 36 = .ok (.iload_n 2, 1) := by decide +kernel
theorem dX4_victoriesOf_37 : decode cX4_victoriesOf 37 = .ok (.ireturn, 1) := by decide +kernel
theorem dX4_conkerToSend_0 : decode cX4_conkerToSend 0 = .ok (.bipush (-5), 2) := by decide +kernel
theorem dX4_conkerToSend_2 : decode cX4_conkerToSend 2 = .ok (.istore_n 2, 1) := by decide +kernel
theorem dX4_conkerToSend_3 : decode cX4_conkerToSend 3 = .ok (.iconst 0, 1) := by decide +kernel
theorem dX4_conkerToSend_4 : decode cX4_conkerToSend 4 = .ok (.istore_n 3, 1) := by decide +kernel
theorem dX4_conkerToSend_5 : decode cX4_conkerToSend 5 = .ok (.iload_n 3, 1) := by decide +kernel
theorem dX4_conkerToSend_6 : decode cX4_conkerToSend 6 = .ok (.aload_n 0, 1) := by decide +kernel
theorem dX4_conkerToSend_7 : decode cX4_conkerToSend 7 = .ok (.getfield 42, 3) := by decide +kernel
theorem dX4_conkerToSend_10 : decode cX4_conkerToSend 10 = .ok (.if_icmp .ge 49, 3) := by decide +kernel
theorem dX4_conkerToSend_13 : decode cX4_conkerToSend 13 = .ok (.aload_n 0, 1) := by decide +kernel
theorem dX4_conkerToSend_14 : decode cX4_conkerToSend 14 = .ok (.getfield 36, 3) := by decide +kernel
theorem dX4_conkerToSend_17 : decode cX4_conkerToSend 17 = .ok (.iload_n 3, 1) := by decide +kernel
theorem dX4_conkerToSend_18 : decode cX4_conkerToSend 18 = .ok (.iaload, 1) := by decide +kernel
theorem dX4_conkerToSend_19 : decode cX4_conkerToSend 19 = .ok (.ifCond .ne 34, 3) := by decide +kernel
theorem dX4_conkerToSend_22 : decode cX4_conkerToSend 22 = .ok (.aload_n 0, 1) := by decide +kernel
theorem dX4_conkerToSend_23 : decode cX4_conkerToSend 23 = .ok (.getfield 18, 3) := by decide +kernel
theorem dX4_conkerToSend_26 : decode cX4_conkerToSend 26 = .ok (.iload_n 3, 1) := by decide +kernel
theorem dX4_conkerToSend_27 : decode cX4_conkerToSend 27 = .ok (.iaload, 1) := by decide +kernel
theorem dX4_conkerToSend_28 : decode cX4_conkerToSend 28 = .ok (.iload_n 1, 1) := by decide +kernel
theorem dX4_conkerToSend_29 : decode cX4_conkerToSend 29 = .ok (.if_icmp .ne 24, 3) := by decide +kernel
theorem dX4_conkerToSend_32 : decode cX4_conkerToSend 32 = .ok (.iload_n 2, 1) := by decide +kernel
theorem dX4_conkerToSend_33 : decode cX4_conkerToSend 33 = .ok (.ifCond .lt 18, 3) := by decide +kernel
theorem dX4_conkerToSend_36 : decode cX4_conkerToSend 36 = .ok (.aload_n 0, 1) := by decide +kernel
theorem dX4_conkerToSend_37 : decode cX4_conkerToSend 37 = .ok (.getfield 30, 3) := by decide +kernel
theorem dX4_conkerToSend_40 : decode cX4_conkerToSend 40 = .ok (.iload_n 3, 1) := by decide +kernel
theorem dX4_conkerToSend_41 : decode cX4_conkerToSend 41 = .ok (.iaload, 1) := by decide +kernel
theorem dX4_conkerToSend_42 : decode cX4_conkerToSend 42 = .ok (.aload_n 0, 1) := by decide +kernel
theorem dX4_conkerToSend_43 : decode cX4_conkerToSend 43 = .ok (.getfield 30, 3) := by decide +kernel
theorem dX4_conkerToSend_46 : decode cX4_conkerToSend 46 = .ok (.iload_n 2, 1) := by decide +kernel
theorem dX4_conkerToSend_47 : decode cX4_conkerToSend 47 = .ok (.iaload, 1) := by decide +kernel
theorem dX4_conkerToSend_48 : decode cX4_conkerToSend 48 = .ok (.if_icmp .le 5, 3) := by decide +kernel
theorem dX4_conkerToSend_51 : decode cX4_conkerToSend 51 = .ok (.iload_n 3, 1) := by decide +kernel
end
section
theorem dX4_conkerToSend_52 : decode cX4_conkerToSend 52 = .ok (.istore_n 2, 1) := by decide +kernel
theorem dX4_conkerToSend_53 : decode cX4_conkerToSend 53 = .ok (.iinc 3 1, 3) := by decide +kernel
theorem dX4_conkerToSend_56 : decode cX4_conkerToSend 56 = .ok (.goto (-51), 3) := by decide +kernel
theorem dX4_conkerToSend_59 : decode cX4_conkerToSend 59 = .ok (.iload_n 2, 1) := by decide +kernel
theorem dX4_conkerToSend_60 : decode cX4_conkerToSend 60 = .ok (.ireturn, 1) := by decide +kernel
set_option maxRecDepth 20000 in
theorem ggX4_conkerAtRank_X4_conkersAheadOf : GoodIn wsX4_conkerAtRank wsX4_conkersAheadOf := goodIn_r _ [7, 1, 8, 2, 9, 10, 11, 12, 13, 14, 15, 16, 17, 18, 19, 20, 21] (by decide +kernel) (by decide +kernel)
set_option maxRecDepth 20000 in
theorem gX4_conkerAtRank_X4_conkersAheadOf : GoodIn wsX4_conkerAtRank (wsV RX4 124 RX4 yX4_conkersAheadOf wsX4_conkersAheadOf) := goodIn_app (goodIn_of _ (by decide +kernel)) ggX4_conkerAtRank_X4_conkersAheadOf
theorem dX4_conkerAtRank_0 : decode cX4_conkerAtRank 0 = .ok (.iconst 0, 1) := by decide +kernel
theorem dX4_conkerAtRank_1 : decode cX4_conkerAtRank 1 = .ok (.istore_n 2, 1) := by decide +kernel
theorem dX4_conkerAtRank_2 : decode cX4_conkerAtRank 2 = .ok (.iload_n 2, 1) := by decide +kernel
theorem dX4_conkerAtRank_3 : decode cX4_conkerAtRank 3 = .ok (.aload_n 0, 1) := by decide +kernel
theorem dX4_conkerAtRank_4 : decode cX4_conkerAtRank 4 = .ok (.getfield 42, 3) := by decide +kernel
theorem dX4_conkerAtRank_7 : decode cX4_conkerAtRank 7 = .ok (.if_icmp .ge 30, 3) := by decide +kernel
theorem dX4_conkerAtRank_10 : decode cX4_conkerAtRank 10 = .ok (.aload_n 0, 1) := by decide +kernel
theorem dX4_conkerAtRank_11 : decode cX4_conkerAtRank 11 = .ok (.getfield 36, 3) := by decide +kernel
theorem dX4_conkerAtRank_14 : decode cX4_conkerAtRank 14 = .ok (.iload_n 2, 1) := by decide +kernel
theorem dX4_conkerAtRank_15 : decode cX4_conkerAtRank 15 = .ok (.iaload, 1) := by decide +kernel
theorem dX4_conkerAtRank_16 : decode cX4_conkerAtRank 16 = .ok (.iconst 2, 1) := by decide +kernel
theorem dX4_conkerAtRank_17 : decode cX4_conkerAtRank 17 = .ok (.if_icmp .eq 14, 3) := by decide +kernel
theorem dX4_conkerAtRank_20 : decode cX4_conkerAtRank 20 = .ok (.aload_n 0, 1) := by decide +kernel
theorem dX4_conkerAtRank_21 : decode cX4_conkerAtRank 21 = .ok (.iload_n 2, 1) := by decide +kernel
theorem dX4_conkerAtRank_22 : decode cX4_conkerAtRank 22 = .ok (.invokevirtual 124, 3) := by decide +kernel
theorem dX4_conkerAtRank_25 : decode cX4_conkerAtRank 25 = .ok (.iload_n 1, 1) := by decide +kernel
theorem dX4_conkerAtRank_26 : decode cX4_conkerAtRank 26 = .ok (.if_icmp .ne 5, 3) := by decide +kernel
theorem dX4_conkerAtRank_29 : decode cX4_conkerAtRank 29 = .ok (.iload_n 2, 1) := by decide +kernel
theorem dX4_conkerAtRank_30 : decode cX4_conkerAtRank 30 = .ok (.ireturn, 1) := by decide +kernel
theorem dX4_conkerAtRank_31 : decode cX4_conkerAtRank 31 = .ok (.iinc 2 1, 3) := by decide +kernel
theorem dX4_conkerAtRank_34 : decode cX4_conkerAtRank 34 = .ok (.goto (-32), 3) := by decide +kernel
theorem dX4_conkerAtRank_37 : decode cX4_conkerAtRank 37 = .ok (.bipush (-5), 2) := by decide +kernel
theorem dX4_conkerAtRank_39 : decode cX4_conkerAtRank 39 = .ok (.ireturn, 1) := by decide +kernel
theorem dX4_conkersAheadOf_0 : decode cX4_conkersAheadOf 0 = .ok (.iconst 0, 1) := by decide +kernel
theorem dX4_conkersAheadOf_1 : decode cX4_conkersAheadOf 1 = .ok (.istore_n 2, 1) := by decide +kernel
theorem dX4_conkersAheadOf_2 : decode cX4_conkersAheadOf 2 = .ok (.iconst 0, 1) := by decide +kernel
theorem dX4_conkersAheadOf_3 : decode cX4_conkersAheadOf 3 = .ok (.istore_n 3, 1) := by decide +kernel
theorem dX4_conkersAheadOf_4 : decode cX4_conkersAheadOf 4 = .ok (.iload_n 3, 1) := by decide +kernel
theorem dX4_conkersAheadOf_5 : decode cX4_conkersAheadOf 5 = .ok (.aload_n 0, 1) := by decide +kernel
theorem dX4_conkersAheadOf_6 : decode cX4_conkersAheadOf 6 = .ok (.getfield 42, 3) := by decide +kernel
theorem dX4_conkersAheadOf_9 : decode cX4_conkersAheadOf 9 = .ok (.if_icmp .ge 81, 3) := by decide +kernel
theorem dX4_conkersAheadOf_12 : decode cX4_conkersAheadOf 12 = .ok (.aload_n 0, 1) := by decide +kernel
theorem dX4_conkersAheadOf_13 : decode cX4_conkersAheadOf 13 = .ok (.getfield 30, 3) := by decide +kernel
theorem dX4_conkersAheadOf_16 : decode cX4_conkersAheadOf 16 = .ok (.iload_n 3, 1) := by decide +kernel
theorem dX4_conkersAheadOf_17 : decode cX4_conkersAheadOf 17 = .ok (.iaload, 1) := by decide +kernel
theorem dX4_conkersAheadOf_18 : decode cX4_conkersAheadOf 18 = .ok (.aload_n 0, 1) := by decide +kernel
theorem dX4_conkersAheadOf_19 : decode cX4_conkersAheadOf 19 = .ok (.getfield 30, 3) := by decide +kernel
theorem dX4_conkersAheadOf_22 : decode cX4_conkersAheadOf 22 = .ok (.iload_n 1, 1) := by decide +kernel
theorem dX4_conkersAheadOf_23 : decode cX4_conkersAheadOf 23 = .ok (.iaload, 1) := by decide +kernel
theorem dX4_conkersAheadOf_24 : decode cX4_conkersAheadOf 24 = .ok (.if_icmp .le 7, 3) := by decide +kernel
theorem dX4_conkersAheadOf_27 : decode cX4_conkersAheadOf 27 = .ok (.iconst 1, 1) := by decide +kernel
theorem dX4_conkersAheadOf_28 : decode cX4_conkersAheadOf 28 = .ok (.goto 4, 3) := by decide +kernel
theorem dX4_conkersAheadOf_31 : decode cX4_conkersAheadOf 31 = .ok (.iconst 0, 1) := by decide +kernel
theorem dX4_conkersAheadOf_32 : decode cX4_conkersAheadOf 32 = .ok (.istore 4, 2) := by decide +kernel
theorem dX4_conkersAheadOf_34 : decode cX4_conkersAheadOf 34 = .ok (.aload_n 0, 1) := by decide +kernel
theorem dX4_conkersAheadOf_35 : decode cX4_conkersAheadOf 35 = .ok (.getfield 30, 3) := by decide +kernel
theorem dX4_conkersAheadOf_38 : decode cX4_conkersAheadOf 38 = .ok (.iload_n 3, 1) := by decide +kernel
theorem dX4_conkersAheadOf_39 : decode cX4_conkersAheadOf 39 = .ok (.iaload, 1) := by decide +kernel
theorem dX4_conkersAheadOf_40 : decode cX4_conkersAheadOf 40 = .ok (.aload_n 0, 1) := by decide +kernel
theorem dX4_conkersAheadOf_41 : decode cX4_conkersAheadOf 41 = .ok (.getfield 30, 3) := by decide +kernel
theorem dX4_conkersAheadOf_44 : decode cX4_conkersAheadOf 44 = .ok (.iload_n 1, 1) := by decide +kernel
theorem dX4_conkersAheadOf_45 : decode cX4_conkersAheadOf 45 = .ok (.iaload, 1) := by decide +kernel
theorem dX4_conkersAheadOf_46 : decode cX4_conkersAheadOf 46 = .ok (.if_icmp .ne 12, 3) := by decide +kernel
theorem dX4_conkersAheadOf_49 : decode cX4_conkersAheadOf 49 = .ok (.iload_n 3, 1) := by decide +kernel
theorem dX4_conkersAheadOf_50 : decode cX4_conkersAheadOf 50 = .ok (.iload_n 1, 1) := by decide +kernel
theorem dX4_conkersAheadOf_51 : decode cX4_conkersAheadOf 51 = .ok (.if_icmp .ge 7, 3) := by decide +kernel
theorem dX4_conkersAheadOf_54 : decode cX4_conkersAheadOf 54 = .ok (.iconst 1, 1) := by decide +kernel
theorem dX4_conkersAheadOf_55 : decode cX4_conkersAheadOf 55 = .ok (.goto 4, 3) := by decide +kernel
theorem dX4_conkersAheadOf_58 : decode cX4_conkersAheadOf 58 = .ok (.iconst 0, 1) := by decide +kernel
theorem dX4_conkersAheadOf_59 : decode cX4_conkersAheadOf 59 = .ok (.istore 5, 2) := by decide +kernel
theorem dX4_conkersAheadOf_61 : decode cX4_conkersAheadOf 61 = .ok (.aload_n 0, 1) := by decide +kernel
theorem dX4_conkersAheadOf_62 : decode cX4_conkersAheadOf 62 = .ok (.getfield 36, 3) := by decide +kernel
theorem dX4_conkersAheadOf_65 : decode cX4_conkersAheadOf 65 = .ok (.iload_n 3, 1) := by decide +kernel
theorem dX4_conkersAheadOf_66 : decode cX4_conkersAheadOf 66 = .ok (.iaload, 1) := by decide +kernel
theorem dX4_conkersAheadOf_67 : decode cX4_conkersAheadOf 67 = .ok (.iconst 2, 1) := by decide +kernel
theorem dX4_conkersAheadOf_68 : decode cX4_conkersAheadOf 68 = .ok (.if_icmp .eq 16, 3) := by decide +kernel
theorem dX4_conkersAheadOf_71 : decode cX4_conkersAheadOf 71 = .ok (.iload 4, 2) := by decide +kernel
theorem dX4_conkersAheadOf_73 : decode cX4_conkersAheadOf 73 = .ok (.ifCond .ne 8, 3) := by decide +kernel
theorem dX4_conkersAheadOf_76 : decode cX4_conkersAheadOf 76 = .ok (.iload 5, 2) := by decide +kernel
theorem dX4_conkersAheadOf_78 : decode cX4_conkersAheadOf 78 = .ok (.ifCond .eq 6, 3) := by decide +kernel
theorem dX4_conkersAheadOf_81 : decode cX4_conkersAheadOf 81 = .ok (.iinc 2 1, 3) := by decide +kernel
theorem dX4_conkersAheadOf_84 : decode cX4_conkersAheadOf 84 = .ok (.iinc 3 1, 3) := by decide +kernel
theorem dX4_conkersAheadOf_87 : decode cX4_conkersAheadOf 87 = .ok (.goto (-83), 3) := by decide +kernel
theorem dX4_conkersAheadOf_90 : decode cX4_conkersAheadOf 90 = .ok (.iload_n 2, 1) := by decide +kernel
theorem dX4_conkersAheadOf_91 : decode cX4_conkersAheadOf 91 = .ok (.ireturn, 1) := by decide +kernel
theorem dX4_conkersSmashedBy_0 : decode cX4_conkersSmashedBy 0 = .ok (.iconst 0, 1) := by decide +kernel
theorem dX4_conkersSmashedBy_1 : decode cX4_conkersSmashedBy 1 = .ok (.istore_n 2, 1) := by decide +kernel
theorem dX4_conkersSmashedBy_2 : decode cX4_conkersSmashedBy 2 = .ok (.iconst 0, 1) := by decide +kernel
theorem dX4_conkersSmashedBy_3 : decode cX4_conkersSmashedBy 3 = .ok (.istore_n 3, 1) := by decide +kernel
theorem dX4_conkersSmashedBy_4 : decode cX4_conkersSmashedBy 4 = .ok (.iload_n 3, 1) := by decide +kernel
theorem dX4_conkersSmashedBy_5 : decode cX4_conkersSmashedBy 5 = .ok (.aload_n 0, 1) := by decide +kernel
theorem dX4_conkersSmashedBy_6 : decode cX4_conkersSmashedBy 6 = .ok (.getfield 42, 3) := by decide +kernel
theorem dX4_conkersSmashedBy_9 : decode cX4_conkersSmashedBy 9 = .ok (.if_icmp .ge 22, 3) := by decide +kernel
theorem dX4_conkersSmashedBy_12 : decode cX4_conkersSmashedBy 12 = .ok (.aload_n 0, 1) := by decide +kernel
theorem dX4_conkersSmashedBy_13 : decode cX4_conkersSmashedBy 13 = .ok (.getfield 39, 3) := by decide +kernel
theorem dX4_conkersSmashedBy_16 : decode cX4_conkersSmashedBy 16 = .ok (.iload_n 3, 1) := by decide +kernel
theorem dX4_conkersSmashedBy_17 : decode cX4_conkersSmashedBy 17 = .ok (.iaload, 1) := by decide +kernel
theorem dX4_conkersSmashedBy_18 : decode cX4_conkersSmashedBy 18 = .ok (.iload_n 1, 1) := by decide +kernel
theorem dX4_conkersSmashedBy_19 : decode cX4_conkersSmashedBy 19 = .ok (.if_icmp .ne 6, 3) := by decide +kernel
theorem dX4_conkersSmashedBy_22 : decode cX4_conkersSmashedBy 22 = .ok (.iinc 2 1, 3) := by decide +kernel
theorem dX4_conkersSmashedBy_25 : decode cX4_conkersSmashedBy 25 = .ok (.iinc 3 1, 3) := by decide +kernel
theorem dX4_conkersSmashedBy_28 : decode cX4_conkersSmashedBy 28 = .ok (.goto (-24), 3) := by decide +kernel
theorem dX4_conkersSmashedBy_31 : decode cX4_conkersSmashedBy 31 = .ok (.iload_n 2, 1) := by decide +kernel
theorem dX4_conkersSmashedBy_32 : decode cX4_conkersSmashedBy 32 = .ok (.ireturn, 1) := by decide +kernel
set_option maxRecDepth 20000 in
theorem ggX4_conkersWithHeir_X4_conkersSmashedBy : GoodIn wsX4_conkersWithHeir wsX4_conkersSmashedBy := goodIn_r _ [6, 1, 7, 8, 9, 10, 11, 12, 13, 14, 15, 16, 17, 18, 19, 20] (by decide +kernel) (by decide +kernel)
set_option maxRecDepth 20000 in
theorem gX4_conkersWithHeir_X4_conkersSmashedBy : GoodIn wsX4_conkersWithHeir (wsV RX4 127 RX4 yX4_conkersSmashedBy wsX4_conkersSmashedBy) := goodIn_app (goodIn_of _ (by decide +kernel)) ggX4_conkersWithHeir_X4_conkersSmashedBy
theorem dX4_conkersWithHeir_0 : decode cX4_conkersWithHeir 0 = .ok (.aload_n 0, 1) := by decide +kernel
theorem dX4_conkersWithHeir_1 : decode cX4_conkersWithHeir 1 = .ok (.getfield 42, 3) := by decide +kernel
theorem dX4_conkersWithHeir_4 : decode cX4_conkersWithHeir 4 = .ok (.aload_n 0, 1) := by decide +kernel
theorem dX4_conkersWithHeir_5 : decode cX4_conkersWithHeir 5 = .ok (.bipush (-5), 2) := by decide +kernel
theorem dX4_conkersWithHeir_7 : decode cX4_conkersWithHeir 7 = .ok (.invokevirtual 127, 3) := by decide +kernel
theorem dX4_conkersWithHeir_10 : decode cX4_conkersWithHeir 10 = .ok (.isub, 1) := by decide +kernel
theorem dX4_conkersWithHeir_11 : decode cX4_conkersWithHeir 11 = .ok (.ireturn, 1) := by decide +kernel
set_option maxRecDepth 20000 in
theorem ggX4_lengthOfLine_X4_isInLineOf : GoodIn wsX4_lengthOfLine wsX4_isInLineOf := goodIn_r _ [6, 7, 1, 8, 9, 10, 5, 11, 12, 13, 14, 15, 16, 17, 18, 19, 20, 21, 22, 23, 24, 25, 26, 27] (by decide +kernel) (by decide +kernel)
set_option maxRecDepth 20000 in
theorem gX4_lengthOfLine_X4_isInLineOf : GoodIn wsX4_lengthOfLine (wsV RX4 130 RX4 yX4_isInLineOf wsX4_isInLineOf) := goodIn_app (goodIn_of _ (by decide +kernel)) ggX4_lengthOfLine_X4_isInLineOf
theorem dX4_lengthOfLine_0 : decode cX4_lengthOfLine 0 = .ok (.iconst 0, 1) := by decide +kernel
theorem dX4_lengthOfLine_1 : decode cX4_lengthOfLine 1 = .ok (.istore_n 2, 1) := by decide +kernel
theorem dX4_lengthOfLine_2 : decode cX4_lengthOfLine 2 = .ok (.iconst 0, 1) := by decide +kernel
theorem dX4_lengthOfLine_3 : decode cX4_lengthOfLine 3 = .ok (.istore_n 3, 1) := by decide +kernel
theorem dX4_lengthOfLine_4 : decode cX4_lengthOfLine 4 = .ok (.iload_n 3, 1) := by decide +kernel
theorem dX4_lengthOfLine_5 : decode cX4_lengthOfLine 5 = .ok (.aload_n 0, 1) := by decide +kernel
theorem dX4_lengthOfLine_6 : decode cX4_lengthOfLine 6 = .ok (.getfield 42, 3) := by decide +kernel
theorem dX4_lengthOfLine_9 : decode cX4_lengthOfLine 9 = .ok (.if_icmp .ge 21, 3) := by decide +kernel
theorem dX4_lengthOfLine_12 : decode cX4_lengthOfLine 12 = .ok (.aload_n 0, 1) := by decide +kernel
theorem dX4_lengthOfLine_13 : decode cX4_lengthOfLine 13 = .ok (.iload_n 3, 1) := by decide +kernel
theorem dX4_lengthOfLine_14 : decode cX4_lengthOfLine 14 = .ok (.iload_n 1, 1) := by decide +kernel
theorem dX4_lengthOfLine_15 : decode cX4_lengthOfLine 15 = .ok (.invokevirtual 130, 3) := by decide +kernel
theorem dX4_lengthOfLine_18 : decode cX4_lengthOfLine 18 = .ok (.ifCond .eq 6, 3) := by decide +kernel
theorem dX4_lengthOfLine_21 : decode cX4_lengthOfLine 21 = .ok (.iinc 2 1, 3) := by decide +kernel
theorem dX4_lengthOfLine_24 : decode cX4_lengthOfLine 24 = .ok (.iinc 3 1, 3) := by decide +kernel
theorem dX4_lengthOfLine_27 : decode cX4_lengthOfLine 27 = .ok (.goto (-23), 3) := by decide +kernel
theorem dX4_lengthOfLine_30 : decode cX4_lengthOfLine 30 = .ok (.iload_n 2, 1) := by decide +kernel
theorem dX4_lengthOfLine_31 : decode cX4_lengthOfLine 31 = .ok (.ireturn, 1) := by decide +kernel
set_option maxRecDepth 20000 in
theorem ggX4_isInLineOf_X4_hasConker : GoodIn wsX4_isInLineOf wsX4_hasConker := goodIn_r _ [7, 2, 8, 9, 10, 11, 12, 13, 14, 15, 16, 17, 18, 19, 20, 21, 22, 23] (by decide +kernel) (by decide +kernel)
set_option maxRecDepth 20000 in
theorem gX4_isInLineOf_X4_hasConker : GoodIn wsX4_isInLineOf (wsV RX4 67 RX4 yX4_hasConker wsX4_hasConker) := goodIn_app (goodIn_of _ (by decide +kernel)) ggX4_isInLineOf_X4_hasConker
theorem dX4_isInLineOf_0 : decode cX4_isInLineOf 0 = .ok (.aload_n 0, 1) := by decide +kernel
theorem dX4_isInLineOf_1 : decode cX4_isInLineOf 1 = .ok (.getfield 39, 3) := by decide +kernel
theorem dX4_isInLineOf_4 : decode cX4_isInLineOf 4 = .ok (.iload_n 1, 1) := by decide +kernel
theorem dX4_isInLineOf_5 : decode cX4_isInLineOf 5 = .ok (.iaload, 1) := by decide +kernel
theorem dX4_isInLineOf_6 : decode cX4_isInLineOf 6 = .ok (.istore_n 3, 1) := by decide +kernel
theorem dX4_isInLineOf_7 : decode cX4_isInLineOf 7 = .ok (.iconst 0, 1) := by decide +kernel
theorem dX4_isInLineOf_8 : decode cX4_isInLineOf 8 = .ok (.istore 4, 2) := by decide +kernel
theorem dX4_isInLineOf_10 : decode cX4_isInLineOf 10 = .ok (.iload 4, 2) := by decide +kernel
theorem dX4_isInLineOf_12 : decode cX4_isInLineOf 12 = .ok (.aload_n 0, 1) := by decide +kernel
theorem dX4_isInLineOf_13 : decode cX4_isInLineOf 13 = .ok (.getfield 42, 3) := by decide +kernel
theorem dX4_isInLineOf_16 : decode cX4_isInLineOf 16 = .ok (.if_icmp .ge 31, 3) := by decide +kernel
theorem dX4_isInLineOf_19 : decode cX4_isInLineOf 19 = .ok (.aload_n 0, 1) := by decide +kernel
theorem dX4_isInLineOf_20 : decode cX4_isInLineOf 20 = .ok (.iload_n 3, 1) := by decide +kernel
theorem dX4_isInLineOf_21 : decode cX4_isInLineOf 21 = .ok (.invokevirtual 67, 3) := by decide +kernel
theorem dX4_isInLineOf_24 : decode cX4_isInLineOf 24 = .ok (.ifCond .eq 23, 3) := by decide +kernel
theorem dX4_isInLineOf_27 : decode cX4_isInLineOf 27 = .ok (.iload_n 3, 1) := by decide +kernel
theorem dX4_isInLineOf_28 : decode cX4_isInLineOf 28 = .ok (.iload_n 2, 1) := by decide +kernel
theorem dX4_isInLineOf_29 : decode cX4_isInLineOf 29 = .ok (.if_icmp .ne 5, 3) := by decide +kernel
theorem dX4_isInLineOf_32 : decode cX4_isInLineOf 32 = .ok (.iconst 1, 1) := by decide +kernel
theorem dX4_isInLineOf_33 : decode cX4_isInLineOf 33 = .ok (.ireturn, 1) := by decide +kernel
theorem dX4_isInLineOf_34 : decode cX4_isInLineOf 34 = .ok (.aload_n 0, 1) := by decide +kernel
theorem dX4_isInLineOf_35 : decode cX4_isInLineOf 35 = .ok (.getfield 39, 3) := by decide +kernel
theorem dX4_isInLineOf_38 : decode cX4_isInLineOf 38 = .ok (.iload_n 3, 1) := by decide +kernel
theorem dX4_isInLineOf_39 : decode cX4_isInLineOf 39 = .ok (.iaload, 1) := by decide +kernel
theorem dX4_isInLineOf_40 : decode cX4_isInLineOf 40 = .ok (.istore_n 3, 1) := by decide +kernel
theorem dX4_isInLineOf_41 : decode cX4_isInLineOf 41 = .ok (.iinc 4 1, 3) := by decide +kernel
theorem dX4_isInLineOf_44 : decode cX4_isInLineOf 44 = .ok (.goto (-34), 3) := by decide +kernel
theorem dX4_isInLineOf_47 : decode cX4_isInLineOf 47 = .ok (.iconst 0, 1) := by decide +kernel
theorem dX4_isInLineOf_48 : decode cX4_isInLineOf 48 = .ok (.ireturn, 1) := by decide +kernel
theorem dX4_boastsTold_0 : decode cX4_boastsTold 0 = .ok (.iconst 0, 1) := by decide +kernel
theorem dX4_boastsTold_1 : decode cX4_boastsTold 1 = .ok (.istore_n 1, 1) := by decide +kernel
theorem dX4_boastsTold_2 : decode cX4_boastsTold 2 = .ok (.iconst 0, 1) := by decide +kernel
theorem dX4_boastsTold_3 : decode cX4_boastsTold 3 = .ok (.istore_n 2, 1) := by decide +kernel
theorem dX4_boastsTold_4 : decode cX4_boastsTold 4 = .ok (.iload_n 2, 1) := by decide +kernel
theorem dX4_boastsTold_5 : decode cX4_boastsTold 5 = .ok (.aload_n 0, 1) := by decide +kernel
theorem dX4_boastsTold_6 : decode cX4_boastsTold 6 = .ok (.getfield 42, 3) := by decide +kernel
theorem dX4_boastsTold_9 : decode cX4_boastsTold 9 = .ok (.if_icmp .ge 23, 3) := by decide +kernel
theorem dX4_boastsTold_12 : decode cX4_boastsTold 12 = .ok (.aload_n 0, 1) := by decide +kernel
theorem dX4_boastsTold_13 : decode cX4_boastsTold 13 = .ok (.getfield 33, 3) := by decide +kernel
theorem dX4_boastsTold_16 : decode cX4_boastsTold 16 = .ok (.iload_n 2, 1) := by decide +kernel
theorem dX4_boastsTold_17 : decode cX4_boastsTold 17 = .ok (.iaload, 1) := by decide +kernel
theorem dX4_boastsTold_18 : decode cX4_boastsTold 18 = .ok (.bipush (-5), 2) := by decide +kernel
theorem dX4_boastsTold_20 : decode cX4_boastsTold 20 = .ok (.if_icmp .eq 6, 3) := by decide +kernel
theorem dX4_boastsTold_23 : decode cX4_boastsTold 23 = .ok (.iinc 1 1, 3) := by decide +kernel
theorem dX4_boastsTold_26 : decode cX4_boastsTold 26 = .ok (.iinc 2 1, 3) := by decide +kernel
theorem dX4_boastsTold_29 : decode cX4_boastsTold 29 = .ok (.goto (-25), 3) := by decide +kernel
theorem dX4_boastsTold_32 : decode cX4_boastsTold 32 = .ok (.iload_n 1, 1) := by decide +kernel
theorem dX4_boastsTold_33 : decode cX4_boastsTold 33 = .ok (.ireturn, 1) := by decide +kernel
theorem dX4_boastsTooHigh_0 : decode cX4_boastsTooHigh 0 = .ok (.iconst 0, 1) := by decide +kernel
theorem dX4_boastsTooHigh_1 : decode cX4_boastsTooHigh 1 = .ok (.istore_n 1, 1) := by decide +kernel
theorem dX4_boastsTooHigh_2 : decode cX4_boastsTooHigh 2 = .ok (.iconst 0, 1) := by decide +kernel
theorem dX4_boastsTooHigh_3 : decode cX4_boastsTooHigh 3 = .ok (.istore_n 2, 1) := by decide +kernel
theorem dX4_boastsTooHigh_4 : decode cX4_boastsTooHigh 4 = .ok (.iload_n 2, 1) := by decide +kernel
theorem dX4_boastsTooHigh_5 : decode cX4_boastsTooHigh 5 = .ok (.aload_n 0, 1) := by decide +kernel
theorem dX4_boastsTooHigh_6 : decode cX4_boastsTooHigh 6 = .ok (.getfield 42, 3) := by decide +kernel
theorem dX4_boastsTooHigh_9 : decode cX4_boastsTooHigh 9 = .ok (.if_icmp .ge 27, 3) := by decide +kernel
theorem dX4_boastsTooHigh_12 : decode cX4_boastsTooHigh 12 = .ok (.aload_n 0, 1) := by decide +kernel
theorem dX4_boastsTooHigh_13 : decode cX4_boastsTooHigh 13 = .ok (.getfield 33, 3) := by decide +kernel
theorem dX4_boastsTooHigh_16 : decode cX4_boastsTooHigh 16 = .ok (.iload_n 2, 1) := by decide +kernel
theorem dX4_boastsTooHigh_17 : decode cX4_boastsTooHigh 17 = .ok (.iaload, 1) := by decide +kernel
theorem dX4_boastsTooHigh_18 : decode cX4_boastsTooHigh 18 = .ok (.aload_n 0, 1) := by decide +kernel
theorem dX4_boastsTooHigh_19 : decode cX4_boastsTooHigh 19 = .ok (.getfield 30, 3) := by decide +kernel
theorem dX4_boastsTooHigh_22 : decode cX4_boastsTooHigh 22 = .ok (.iload_n 2, 1) := by decide +kernel
theorem dX4_boastsTooHigh_23 : decode cX4_boastsTooHigh 23 = .ok (.iaload, 1) := by decide +kernel
theorem dX4_boastsTooHigh_24 : decode cX4_boastsTooHigh 24 = .ok (.if_icmp .le 6, 3) := by decide +kernel
theorem dX4_boastsTooHigh_27 : decode cX4_boastsTooHigh 27 = .ok (.iinc 1 1, 3) := by decide +kernel
theorem dX4_boastsTooHigh_30 : decode cX4_boastsTooHigh 30 = .ok (.iinc 2 1, 3) := by decide +kernel
theorem dX4_boastsTooHigh_33 : decode cX4_boastsTooHigh 33 = .ok (.goto (-29), 3) := by decide +kernel
theorem dX4_boastsTooHigh_36 : decode cX4_boastsTooHigh 36 = .ok (.iload_n 1, 1) := by decide +kernel
theorem dX4_boastsTooHigh_37 : decode cX4_boastsTooHigh 37 = .ok (.ireturn, 1) := by decide +kernel
set_option maxRecDepth 20000 in
theorem ggX5_init_X4_init : GoodIn wsX5_init wsX4_init := goodIn_r _ [29, 30, 2, 3, 31, 32, 33, 34, 35, 36, 37, 38, 39, 40, 41, 42, 43, 44, 73, 74, 75, 76, 77, 78, 79, 80, 81, 82, 83, 84, 85] (by decide +kernel) (by decide +kernel)
set_option maxRecDepth 20000 in
theorem gX5_init_X4_init : GoodIn wsX5_init (wsX4_init) := ggX5_init_X4_init
set_option maxRecDepth 20000 in
theorem ggX5_init_X1_init : GoodIn wsX5_init wsX1_init := goodIn_r _ [47, 48, 2, 3, 49, 50, 51, 5, 6, 52, 28, 29, 30, 31, 32, 33, 34, 35, 36, 37, 38, 39, 40, 41, 42, 43, 44, 94, 95, 73, 74, 75, 76, 77, 78, 79, 80, 81, 82, 83, 84, 85] (by decide +kernel) (by decide +kernel)
set_option maxRecDepth 20000 in
theorem gX5_init_X1_init : GoodIn wsX5_init (wsX1_init) := ggX5_init_X1_init
set_option maxRecDepth 20000 in
theorem ggX5_init_X3_init : GoodIn wsX5_init wsX3_init := goodIn_r _ [54, 55, 2, 3, 56, 57, 58, 59, 60, 61, 62, 63, 96, 97, 98, 99, 100, 101, 102] (by decide +kernel) (by decide +kernel)
set_option maxRecDepth 20000 in
theorem gX5_init_X3_init_n31 : GoodIn wsX5_init (wsX3_init) := ggX5_init_X3_init
set_option maxRecDepth 20000 in
theorem ggX5_init_X0_init : GoodIn wsX5_init wsX0_init := goodIn_r _ [65, 66, 2, 3, 67, 103] (by decide +kernel) (by decide +kernel)
set_option maxRecDepth 20000 in
theorem gX5_init_X0_init_n38 : GoodIn wsX5_init (wsX0_init) := ggX5_init_X0_init
set_option maxRecDepth 20000 in
theorem ggX5_init_X2_init : GoodIn wsX5_init wsX2_init := goodIn_r _ [69, 70, 2, 3, 31, 71, 72, 104, 105] (by decide +kernel) (by decide +kernel)
set_option maxRecDepth 20000 in
theorem gX5_init_X2_init_n45 : GoodIn wsX5_init (wsX2_init) := ggX5_init_X2_init
theorem dX5_init_0 : decode cX5_init 0 = .ok (.aload_n 0, 1) := by decide +kernel
theorem dX5_init_1 : decode cX5_init 1 = .ok (.invokespecial 1, 3) := by decide +kernel
theorem dX5_init_4 : decode cX5_init 4 = .ok (.aload_n 0, 1) := by decide +kernel
theorem dX5_init_5 : decode cX5_init 5 = .ok (.new 7, 3) := by decide +kernel
theorem dX5_init_8 : decode cX5_init 8 = .ok (.dup, 1) := by decide +kernel
theorem dX5_init_9 : decode cX5_init 9 = .ok (.invokespecial 9, 3) := by decide +kernel
theorem dX5_init_12 : decode cX5_init 12 = .ok (.putfield 10, 3) := by decide +kernel
theorem dX5_init_15 : decode cX5_init 15 = .ok (.aload_n 0, 1) := by decide +kernel
theorem dX5_init_16 : decode cX5_init 16 = .ok (.new 7, 3) := by decide +kernel
theorem dX5_init_19 : decode cX5_init 19 = .ok (.dup, 1) := by decide +kernel
theorem dX5_init_20 : decode cX5_init 20 = .ok (.invokespecial 9, 3) := by decide +kernel
theorem dX5_init_23 : decode cX5_init 23 = .ok (.putfield 16, 3) := by decide +kernel
theorem dX5_init_26 : decode cX5_init 26 = .ok (.aload_n 0, 1) := by decide +kernel
theorem dX5_init_27 : decode cX5_init 27 = .ok (.new 7, 3) := by decide +kernel
theorem dX5_init_30 : decode cX5_init 30 = .ok (.dup, 1) := by decide +kernel
theorem dX5_init_31 : decode cX5_init 31 = .ok (.invokespecial 9, 3) := by decide +kernel
theorem dX5_init_34 : decode cX5_init 34 = .ok (.putfield 19, 3) := by decide +kernel
theorem dX5_init_37 : decode cX5_init 37 = .ok (.aload_n 0, 1) := by decide +kernel
theorem dX5_init_38 : decode cX5_init 38 = .ok (.new 22, 3) := by decide +kernel
theorem dX5_init_41 : decode cX5_init 41 = .ok (.dup, 1) := by decide +kernel
theorem dX5_init_42 : decode cX5_init 42 = .ok (.invokespecial 24, 3) := by decide +kernel
theorem dX5_init_45 : decode cX5_init 45 = .ok (.putfield 25, 3) := by decide +kernel
theorem dX5_init_48 : decode cX5_init 48 = .ok (.aload_n 0, 1) := by decide +kernel
theorem dX5_init_49 : decode cX5_init 49 = .ok (.new 29, 3) := by decide +kernel
theorem dX5_init_52 : decode cX5_init 52 = .ok (.dup, 1) := by decide +kernel
theorem dX5_init_53 : decode cX5_init 53 = .ok (.invokespecial 31, 3) := by decide +kernel
theorem dX5_init_56 : decode cX5_init 56 = .ok (.putfield 32, 3) := by decide +kernel
theorem dX5_init_59 : decode cX5_init 59 = .ok (.aload_n 0, 1) := by decide +kernel
theorem dX5_init_60 : decode cX5_init 60 = .ok (.new 36, 3) := by decide +kernel
theorem dX5_init_63 : decode cX5_init 63 = .ok (.dup, 1) := by decide +kernel
theorem dX5_init_64 : decode cX5_init 64 = .ok (.invokespecial 38, 3) := by decide +kernel
theorem dX5_init_67 : decode cX5_init 67 = .ok (.putfield 39, 3) := by decide +kernel
theorem dX5_init_70 : decode cX5_init 70 = .ok (.aload_n 0, 1) := by decide +kernel
theorem dX5_init_71 : decode cX5_init 71 = .ok (.new 43, 3) := by decide +kernel
theorem dX5_init_74 : decode cX5_init 74 = .ok (.dup, 1) := by decide +kernel
theorem dX5_init_75 : decode cX5_init 75 = .ok (.invokespecial 45, 3) := by decide +kernel
theorem dX5_init_78 : decode cX5_init 78 = .ok (.putfield 46, 3) := by decide +kernel
theorem dX5_init_81 : decode cX5_init 81 = .ok (.aload_n 0, 1) := by decide +kernel
theorem dX5_init_82 : decode cX5_init 82 = .ok (.iconst 0, 1) := by decide +kernel
theorem dX5_init_83 : decode cX5_init 83 = .ok (.putfield 50, 3) := by decide +kernel
theorem dX5_init_86 : decode cX5_init 86 = .ok (.return_, 1) := by decide +kernel
set_option maxRecDepth 20000 in
theorem ggX5_thread_X5_isPlayer : GoodIn wsX5_thread wsX5_isPlayer := goodIn_r _ [8, 9, 10, 7, 11] (by decide +kernel) (by decide +kernel)
set_option maxRecDepth 20000 in
theorem gX5_thread_X5_isPlayer : GoodIn wsX5_thread (va_wsS RX5 54 yX5_isPlayer wsX5_isPlayer) := goodIn_app (goodIn_of _ (by decide +kernel)) ggX5_thread_X5_isPlayer
set_option maxRecDepth 20000 in
theorem ggX5_thread_X5_isWithin : GoodIn wsX5_thread wsX5_isWithin := goodIn_r _ [11] (by decide +kernel) (by decide +kernel)
set_option maxRecDepth 20000 in
theorem gX5_thread_X5_isWithin : GoodIn wsX5_thread (va_wsS RX5 58 yX5_isWithin wsX5_isWithin) := goodIn_app (goodIn_of _ (by decide +kernel)) ggX5_thread_X5_isWithin
set_option maxRecDepth 20000 in
theorem ggX5_thread_X1_keep : GoodIn wsX5_thread wsX1_keep := goodIn_r _ [16, 17, 18, 19, 20, 21, 15, 22, 23, 24, 25, 26, 27, 28, 29, 30, 31, 32, 33, 34, 35, 36, 37, 38, 39, 40, 41, 42, 43, 44, 70, 71, 57, 58, 59, 60, 61, 62, 63, 64, 65, 66, 67, 68, 69] (by decide +kernel) (by decide +kernel)
set_option maxRecDepth 20000 in
theorem gX5_thread_X1_keep : GoodIn wsX5_thread (wsV RX5 70 RX1 yX1_keep wsX1_keep) := goodIn_app (goodIn_of _ (by decide +kernel)) ggX5_thread_X1_keep
set_option maxRecDepth 20000 in
theorem ggX5_thread_X4_addConker : GoodIn wsX5_thread wsX4_addConker := goodIn_r _ [48, 42, 28, 34, 35, 36, 37, 38, 39, 40, 41, 57, 58, 59, 60, 61, 62, 63, 64, 65, 66, 67, 68, 69] (by decide +kernel) (by decide +kernel)
set_option maxRecDepth 20000 in
theorem gX5_thread_X4_addConker : GoodIn wsX5_thread (wsV RX5 74 RX4 yX4_addConker wsX4_addConker) := goodIn_app (goodIn_of _ (by decide +kernel)) ggX5_thread_X4_addConker
theorem dX5_thread_0 : decode cX5_thread 0 = .ok (.iload_n 1, 1) := by decide +kernel
theorem dX5_thread_1 : decode cX5_thread 1 = .ok (.invokestatic 54, 3) := by decide +kernel
theorem dX5_thread_4 : decode cX5_thread 4 = .ok (.ifCond .ne 5, 3) := by decide +kernel
theorem dX5_thread_7 : decode cX5_thread 7 = .ok (.iconst (-1), 1) := by decide +kernel
theorem dX5_thread_8 : decode cX5_thread 8 = .ok (.ireturn, 1) := by decide +kernel
theorem dX5_thread_9 : decode cX5_thread 9 = .ok (.iload_n 2, 1) := by decide +kernel
theorem dX5_thread_10 : decode cX5_thread 10 = .ok (.iconst 1, 1) := by decide +kernel
theorem dX5_thread_11 : decode cX5_thread 11 = .ok (.bipush 9, 2) := by decide +kernel
theorem dX5_thread_13 : decode cX5_thread 13 = .ok (.invokestatic 58, 3) := by decide +kernel
theorem dX5_thread_16 : decode cX5_thread 16 = .ok (.ifCond .ne 6, 3) := by decide +kernel
theorem dX5_thread_19 : decode cX5_thread 19 = .ok (.bipush (-2), 2) := by decide +kernel
theorem dX5_thread_21 : decode cX5_thread 21 = .ok (.ireturn, 1) := by decide +kernel
theorem dX5_thread_22 : decode cX5_thread 22 = .ok (.aload_n 0, 1) := by decide +kernel
theorem dX5_thread_23 : decode cX5_thread 23 = .ok (.getfield 10, 3) := by decide +kernel
theorem dX5_thread_26 : decode cX5_thread 26 = .ok (.getfield 62, 3) := by decide +kernel
theorem dX5_thread_29 : decode cX5_thread 29 = .ok (.iload_n 1, 1) := by decide +kernel
theorem dX5_thread_30 : decode cX5_thread 30 = .ok (.iaload, 1) := by decide +kernel
theorem dX5_thread_31 : decode cX5_thread 31 = .ok (.iconst 1, 1) := by decide +kernel
theorem dX5_thread_32 : decode cX5_thread 32 = .ok (.if_icmp .ge 6, 3) := by decide +kernel
theorem dX5_thread_35 : decode cX5_thread 35 = .ok (.bipush (-4), 2) := by decide +kernel
theorem dX5_thread_37 : decode cX5_thread 37 = .ok (.ireturn, 1) := by decide +kernel
theorem dX5_thread_38 : decode cX5_thread 38 = .ok (.aload_n 0, 1) := by decide +kernel
theorem dX5_thread_39 : decode cX5_thread 39 = .ok (.getfield 10, 3) := by decide +kernel
theorem dX5_thread_42 : decode cX5_thread 42 = .ok (.getfield 66, 3) := by decide +kernel
theorem dX5_thread_45 : decode cX5_thread 45 = .ok (.bipush 30, 2) := by decide +kernel
theorem dX5_thread_47 : decode cX5_thread 47 = .ok (.if_icmp .lt 6, 3) := by decide +kernel
theorem dX5_thread_50 : decode cX5_thread 50 = .ok (.bipush (-3), 2) := by decide +kernel
theorem dX5_thread_52 : decode cX5_thread 52 = .ok (.ireturn, 1) := by decide +kernel
theorem dX5_thread_53 : decode cX5_thread 53 = .ok (.aload_n 0, 1) := by decide +kernel
theorem dX5_thread_54 : decode cX5_thread 54 = .ok (.getfield 25, 3) := by decide +kernel
theorem dX5_thread_57 : decode cX5_thread 57 = .ok (.aload_n 0, 1) := by decide +kernel
theorem dX5_thread_58 : decode cX5_thread 58 = .ok (.getfield 10, 3) := by decide +kernel
theorem dX5_thread_61 : decode cX5_thread 61 = .ok (.invokevirtual 70, 3) := by decide +kernel
theorem dX5_thread_64 : decode cX5_thread 64 = .ok (.aload_n 0, 1) := by decide +kernel
theorem dX5_thread_65 : decode cX5_thread 65 = .ok (.getfield 10, 3) := by decide +kernel
theorem dX5_thread_68 : decode cX5_thread 68 = .ok (.iload_n 1, 1) := by decide +kernel
theorem dX5_thread_69 : decode cX5_thread 69 = .ok (.iload_n 2, 1) := by decide +kernel
theorem dX5_thread_70 : decode cX5_thread 70 = .ok (.invokevirtual 74, 3) := by decide +kernel
theorem dX5_thread_73 : decode cX5_thread 73 = .ok (.ireturn, 1) := by decide +kernel
set_option maxRecDepth 20000 in
theorem ggX5_give_X5_isPlayer : GoodIn wsX5_give wsX5_isPlayer := goodIn_r _ [7, 8, 9, 6, 10] (by decide +kernel) (by decide +kernel)
set_option maxRecDepth 20000 in
theorem gX5_give_X5_isPlayer : GoodIn wsX5_give (va_wsS RX5 54 yX5_isPlayer wsX5_isPlayer) := goodIn_app (goodIn_of _ (by decide +kernel)) ggX5_give_X5_isPlayer
set_option maxRecDepth 20000 in
theorem ggX5_give_X5_isWithin : GoodIn wsX5_give wsX5_isWithin := goodIn_r _ [10] (by decide +kernel) (by decide +kernel)
set_option maxRecDepth 20000 in
theorem gX5_give_X5_isWithin : GoodIn wsX5_give (va_wsS RX5 58 yX5_isWithin wsX5_isWithin) := goodIn_app (goodIn_of _ (by decide +kernel)) ggX5_give_X5_isWithin
set_option maxRecDepth 20000 in
theorem ggX5_give_X1_keep : GoodIn wsX5_give wsX1_keep := goodIn_r _ [15, 16, 17, 18, 19, 20, 14, 21, 22, 23, 24, 25, 26, 27, 28, 29, 30, 31, 32, 33, 34, 35, 36, 37, 38, 39, 40, 41, 42, 43, 65, 66, 52, 53, 54, 55, 56, 57, 58, 59, 60, 61, 62, 63, 64] (by decide +kernel) (by decide +kernel)
set_option maxRecDepth 20000 in
theorem gX5_give_X1_keep : GoodIn wsX5_give (wsV RX5 70 RX1 yX1_keep wsX1_keep) := goodIn_app (goodIn_of _ (by decide +kernel)) ggX5_give_X1_keep
theorem dX5_give_0 : decode cX5_give 0 = .ok (.iload_n 1, 1) := by decide +kernel
theorem dX5_give_1 : decode cX5_give 1 = .ok (.invokestatic 54, 3) := by decide +kernel
theorem dX5_give_4 : decode cX5_give 4 = .ok (.ifCond .ne 5, 3) := by decide +kernel
theorem dX5_give_7 : decode cX5_give 7 = .ok (.iconst (-1), 1) := by decide +kernel
theorem dX5_give_8 : decode cX5_give 8 = .ok (.ireturn, 1) := by decide +kernel
theorem dX5_give_9 : decode cX5_give 9 = .ok (.iload_n 2, 1) := by decide +kernel
theorem dX5_give_10 : decode cX5_give 10 = .ok (.iconst 1, 1) := by decide +kernel
theorem dX5_give_11 : decode cX5_give 11 = .ok (.bipush 9, 2) := by decide +kernel
theorem dX5_give_13 : decode cX5_give 13 = .ok (.invokestatic 58, 3) := by decide +kernel
theorem dX5_give_16 : decode cX5_give 16 = .ok (.ifCond .ne 6, 3) := by decide +kernel
theorem dX5_give_19 : decode cX5_give 19 = .ok (.bipush (-2), 2) := by decide +kernel
theorem dX5_give_21 : decode cX5_give 21 = .ok (.ireturn, 1) := by decide +kernel
theorem dX5_give_22 : decode cX5_give 22 = .ok (.aload_n 0, 1) := by decide +kernel
theorem dX5_give_23 : decode cX5_give 23 = .ok (.getfield 10, 3) := by decide +kernel
theorem dX5_give_26 : decode cX5_give 26 = .ok (.getfield 62, 3) := by decide +kernel
theorem dX5_give_29 : decode cX5_give 29 = .ok (.iload_n 1, 1) := by decide +kernel
theorem dX5_give_30 : decode cX5_give 30 = .ok (.iaload, 1) := by decide +kernel
theorem dX5_give_31 : decode cX5_give 31 = .ok (.iload_n 2, 1) := by decide +kernel
theorem dX5_give_32 : decode cX5_give 32 = .ok (.iadd, 1) := by decide +kernel
theorem dX5_give_33 : decode cX5_give 33 = .ok (.bipush 20, 2) := by decide +kernel
theorem dX5_give_35 : decode cX5_give 35 = .ok (.if_icmp .le 6, 3) := by decide +kernel
theorem dX5_give_38 : decode cX5_give 38 = .ok (.bipush (-3), 2) := by decide +kernel
theorem dX5_give_40 : decode cX5_give 40 = .ok (.ireturn, 1) := by decide +kernel
theorem dX5_give_41 : decode cX5_give 41 = .ok (.aload_n 0, 1) := by decide +kernel
theorem dX5_give_42 : decode cX5_give 42 = .ok (.getfield 25, 3) := by decide +kernel
theorem dX5_give_45 : decode cX5_give 45 = .ok (.aload_n 0, 1) := by decide +kernel
theorem dX5_give_46 : decode cX5_give 46 = .ok (.getfield 10, 3) := by decide +kernel
theorem dX5_give_49 : decode cX5_give 49 = .ok (.invokevirtual 70, 3) := by decide +kernel
theorem dX5_give_52 : decode cX5_give 52 = .ok (.aload_n 0, 1) := by decide +kernel
theorem dX5_give_53 : decode cX5_give 53 = .ok (.getfield 10, 3) := by decide +kernel
theorem dX5_give_56 : decode cX5_give 56 = .ok (.getfield 62, 3) := by decide +kernel
theorem dX5_give_59 : decode cX5_give 59 = .ok (.iload_n 1, 1) := by decide +kernel
theorem dX5_give_60 : decode cX5_give 60 = .ok (.dup2, 1) := by decide +kernel
theorem dX5_give_61 : decode cX5_give 61 = .ok (.iaload, 1) := by decide +kernel
theorem dX5_give_62 : decode cX5_give 62 = .ok (.iload_n 2, 1) := by decide +kernel
theorem dX5_give_63 : decode cX5_give 63 = .ok (.iadd, 1) := by decide +kernel
theorem dX5_give_64 : decode cX5_give 64 = .ok (.iastore, 1) := by decide +kernel
theorem dX5_give_65 : decode cX5_give 65 = .ok (.aload_n 0, 1) := by decide +kernel
theorem dX5_give_66 : decode cX5_give 66 = .ok (.getfield 10, 3) := by decide +kernel
theorem dX5_give_69 : decode cX5_give 69 = .ok (.getfield 62, 3) := by decide +kernel
theorem dX5_give_72 : decode cX5_give 72 = .ok (.iload_n 1, 1) := by decide +kernel
theorem dX5_give_73 : decode cX5_give 73 = .ok (.iaload, 1) := by decide +kernel
theorem dX5_give_74 : decode cX5_give 74 = .ok (.ireturn, 1) := by decide +kernel
set_option maxRecDepth 20000 in
theorem ggX5_strike_X4_strikeError : GoodIn wsX5_strike wsX4_strikeError := goodIn_r _ [7, 8, 9, 10, 11, 12, 13, 6, 14, 15, 16, 17, 18, 19, 20, 21, 22, 23, 24, 25, 98, 99, 100, 101, 102, 103, 104, 105, 106, 107, 108, 109, 110] (by decide +kernel) (by decide +kernel)
set_option maxRecDepth 20000 in
theorem gX5_strike_X4_strikeError : GoodIn wsX5_strike (wsV RX5 78 RX4 yX4_strikeError wsX4_strikeError) := goodIn_app (goodIn_of _ (by decide +kernel)) ggX5_strike_X4_strikeError
set_option maxRecDepth 20000 in
theorem ggX5_strike_X1_keep : GoodIn wsX5_strike wsX1_keep := goodIn_r _ [30, 31, 32, 33, 34, 35, 29, 36, 37, 38, 39, 6, 40, 41, 42, 43, 44, 45, 46, 15, 47, 48, 49, 50, 51, 25, 52, 20, 53, 54, 111, 112, 98, 99, 100, 101, 102, 103, 104, 105, 106, 107, 108, 109, 110] (by decide +kernel) (by decide +kernel)
set_option maxRecDepth 20000 in
theorem gX5_strike_X1_keep : GoodIn wsX5_strike (wsV RX5 70 RX1 yX1_keep wsX1_keep) := goodIn_app (goodIn_of _ (by decide +kernel)) ggX5_strike_X1_keep
set_option maxRecDepth 20000 in
theorem ggX5_strike_X4_hit : GoodIn wsX5_strike wsX4_hit := goodIn_r _ [58, 47, 54, 48, 59, 60, 61, 62, 49, 63, 64, 6, 65, 66, 67, 68, 69, 70, 71, 72, 73, 53, 74, 75, 76, 77, 50, 51, 25, 78, 79, 80, 81, 52, 82, 83, 84, 85, 86, 87, 88, 89, 98, 99, 100, 101, 102, 103, 104, 105, 106, 107, 108, 109, 110] (by decide +kernel) (by decide +kernel)
set_option maxRecDepth 20000 in
theorem gX5_strike_X4_hit : GoodIn wsX5_strike (wsV RX5 82 RX4 yX4_hit wsX4_hit) := goodIn_app (goodIn_of _ (by decide +kernel)) ggX5_strike_X4_hit
theorem dX5_strike_0 : decode cX5_strike 0 = .ok (.aload_n 0, 1) := by decide +kernel
theorem dX5_strike_1 : decode cX5_strike 1 = .ok (.getfield 10, 3) := by decide +kernel
theorem dX5_strike_4 : decode cX5_strike 4 = .ok (.iload_n 1, 1) := by decide +kernel
theorem dX5_strike_5 : decode cX5_strike 5 = .ok (.iload_n 2, 1) := by decide +kernel
theorem dX5_strike_6 : decode cX5_strike 6 = .ok (.iload_n 3, 1) := by decide +kernel
theorem dX5_strike_7 : decode cX5_strike 7 = .ok (.invokevirtual 78, 3) := by decide +kernel
theorem dX5_strike_10 : decode cX5_strike 10 = .ok (.istore 4, 2) := by decide +kernel
theorem dX5_strike_12 : decode cX5_strike 12 = .ok (.iload 4, 2) := by decide +kernel
theorem dX5_strike_14 : decode cX5_strike 14 = .ok (.ifCond .eq 6, 3) := by decide +kernel
theorem dX5_strike_17 : decode cX5_strike 17 = .ok (.iload 4, 2) := by decide +kernel
theorem dX5_strike_19 : decode cX5_strike 19 = .ok (.ireturn, 1) := by decide +kernel
theorem dX5_strike_20 : decode cX5_strike 20 = .ok (.aload_n 0, 1) := by decide +kernel
theorem dX5_strike_21 : decode cX5_strike 21 = .ok (.getfield 25, 3) := by decide +kernel
theorem dX5_strike_24 : decode cX5_strike 24 = .ok (.aload_n 0, 1) := by decide +kernel
theorem dX5_strike_25 : decode cX5_strike 25 = .ok (.getfield 10, 3) := by decide +kernel
theorem dX5_strike_28 : decode cX5_strike 28 = .ok (.invokevirtual 70, 3) := by decide +kernel
theorem dX5_strike_31 : decode cX5_strike 31 = .ok (.aload_n 0, 1) := by decide +kernel
theorem dX5_strike_32 : decode cX5_strike 32 = .ok (.getfield 10, 3) := by decide +kernel
theorem dX5_strike_35 : decode cX5_strike 35 = .ok (.iload_n 1, 1) := by decide +kernel
theorem dX5_strike_36 : decode cX5_strike 36 = .ok (.iload_n 2, 1) := by decide +kernel
theorem dX5_strike_37 : decode cX5_strike 37 = .ok (.iload_n 3, 1) := by decide +kernel
theorem dX5_strike_38 : decode cX5_strike 38 = .ok (.invokevirtual 82, 3) := by decide +kernel
theorem dX5_strike_41 : decode cX5_strike 41 = .ok (.ireturn, 1) := by decide +kernel
set_option maxRecDepth 20000 in
theorem ggX5_mend_X4_mendError : GoodIn wsX5_mend wsX4_mendError := goodIn_r _ [7, 8, 9, 10, 11, 12, 6, 13, 14, 15, 16, 17, 18, 19, 20, 21, 22, 63, 64, 65, 66, 67, 68, 69, 70, 71, 72, 73, 74, 75] (by decide +kernel) (by decide +kernel)
set_option maxRecDepth 20000 in
theorem gX5_mend_X4_mendError : GoodIn wsX5_mend (wsV RX5 85 RX4 yX4_mendError wsX4_mendError) := goodIn_app (goodIn_of _ (by decide +kernel)) ggX5_mend_X4_mendError
set_option maxRecDepth 20000 in
theorem ggX5_mend_X1_keep : GoodIn wsX5_mend wsX1_keep := goodIn_r _ [27, 28, 29, 30, 31, 32, 26, 33, 34, 35, 36, 6, 37, 8, 38, 39, 40, 41, 42, 9, 43, 44, 45, 46, 47, 14, 48, 19, 49, 50, 76, 77, 63, 64, 65, 66, 67, 68, 69, 70, 71, 72, 73, 74, 75] (by decide +kernel) (by decide +kernel)
set_option maxRecDepth 20000 in
theorem gX5_mend_X1_keep : GoodIn wsX5_mend (wsV RX5 70 RX1 yX1_keep wsX1_keep) := goodIn_app (goodIn_of _ (by decide +kernel)) ggX5_mend_X1_keep
set_option maxRecDepth 20000 in
theorem ggX5_mend_X4_threadAgain : GoodIn wsX5_mend wsX4_threadAgain := goodIn_r _ [54, 9, 8, 45, 14, 63, 64, 65, 66, 67, 68, 69, 70, 71, 72, 73, 74, 75] (by decide +kernel) (by decide +kernel)
set_option maxRecDepth 20000 in
theorem gX5_mend_X4_threadAgain : GoodIn wsX5_mend (wsV RX5 89 RX4 yX4_threadAgain wsX4_threadAgain) := goodIn_app (goodIn_of _ (by decide +kernel)) ggX5_mend_X4_threadAgain
theorem dX5_mend_0 : decode cX5_mend 0 = .ok (.aload_n 0, 1) := by decide +kernel
theorem dX5_mend_1 : decode cX5_mend 1 = .ok (.getfield 10, 3) := by decide +kernel
theorem dX5_mend_4 : decode cX5_mend 4 = .ok (.iload_n 1, 1) := by decide +kernel
theorem dX5_mend_5 : decode cX5_mend 5 = .ok (.invokevirtual 85, 3) := by decide +kernel
theorem dX5_mend_8 : decode cX5_mend 8 = .ok (.istore_n 2, 1) := by decide +kernel
theorem dX5_mend_9 : decode cX5_mend 9 = .ok (.iload_n 2, 1) := by decide +kernel
theorem dX5_mend_10 : decode cX5_mend 10 = .ok (.ifCond .eq 5, 3) := by decide +kernel
theorem dX5_mend_13 : decode cX5_mend 13 = .ok (.iload_n 2, 1) := by decide +kernel
theorem dX5_mend_14 : decode cX5_mend 14 = .ok (.ireturn, 1) := by decide +kernel
theorem dX5_mend_15 : decode cX5_mend 15 = .ok (.aload_n 0, 1) := by decide +kernel
theorem dX5_mend_16 : decode cX5_mend 16 = .ok (.getfield 25, 3) := by decide +kernel
theorem dX5_mend_19 : decode cX5_mend 19 = .ok (.aload_n 0, 1) := by decide +kernel
theorem dX5_mend_20 : decode cX5_mend 20 = .ok (.getfield 10, 3) := by decide +kernel
theorem dX5_mend_23 : decode cX5_mend 23 = .ok (.invokevirtual 70, 3) := by decide +kernel
theorem dX5_mend_26 : decode cX5_mend 26 = .ok (.aload_n 0, 1) := by decide +kernel
theorem dX5_mend_27 : decode cX5_mend 27 = .ok (.getfield 10, 3) := by decide +kernel
theorem dX5_mend_30 : decode cX5_mend 30 = .ok (.iload_n 1, 1) := by decide +kernel
theorem dX5_mend_31 : decode cX5_mend 31 = .ok (.invokevirtual 89, 3) := by decide +kernel
theorem dX5_mend_34 : decode cX5_mend 34 = .ok (.ireturn, 1) := by decide +kernel
set_option maxRecDepth 20000 in
theorem ggX5_stamp_X4_fallenError : GoodIn wsX5_stamp wsX4_fallenError := goodIn_r _ [7, 8, 9, 10, 11, 6, 12, 13, 14, 15, 16, 63, 64, 65, 66, 67, 68, 69, 70, 71, 72, 73, 74, 75] (by decide +kernel) (by decide +kernel)
set_option maxRecDepth 20000 in
theorem gX5_stamp_X4_fallenError : GoodIn wsX5_stamp (wsV RX5 92 RX4 yX4_fallenError wsX4_fallenError) := goodIn_app (goodIn_of _ (by decide +kernel)) ggX5_stamp_X4_fallenError
set_option maxRecDepth 20000 in
theorem ggX5_stamp_X1_keep : GoodIn wsX5_stamp wsX1_keep := goodIn_r _ [21, 22, 23, 24, 25, 26, 20, 27, 28, 29, 30, 6, 31, 32, 33, 34, 35, 36, 37, 38, 39, 40, 41, 42, 43, 8, 44, 13, 45, 46, 76, 77, 63, 64, 65, 66, 67, 68, 69, 70, 71, 72, 73, 74, 75] (by decide +kernel) (by decide +kernel)
set_option maxRecDepth 20000 in
theorem gX5_stamp_X1_keep : GoodIn wsX5_stamp (wsV RX5 70 RX1 yX1_keep wsX1_keep) := goodIn_app (goodIn_of _ (by decide +kernel)) ggX5_stamp_X1_keep
set_option maxRecDepth 20000 in
theorem ggX5_stamp_X4_crush : GoodIn wsX5_stamp wsX4_crush := goodIn_r _ [50, 45, 51, 52, 53, 6, 54, 42, 43, 8, 63, 64, 65, 66, 67, 68, 69, 70, 71, 72, 73, 74, 75] (by decide +kernel) (by decide +kernel)
set_option maxRecDepth 20000 in
theorem gX5_stamp_X4_crush : GoodIn wsX5_stamp (wsV RX5 95 RX4 yX4_crush wsX4_crush) := goodIn_app (goodIn_of _ (by decide +kernel)) ggX5_stamp_X4_crush
theorem dX5_stamp_0 : decode cX5_stamp 0 = .ok (.aload_n 0, 1) := by decide +kernel
theorem dX5_stamp_1 : decode cX5_stamp 1 = .ok (.getfield 10, 3) := by decide +kernel
theorem dX5_stamp_4 : decode cX5_stamp 4 = .ok (.iload_n 1, 1) := by decide +kernel
theorem dX5_stamp_5 : decode cX5_stamp 5 = .ok (.invokevirtual 92, 3) := by decide +kernel
theorem dX5_stamp_8 : decode cX5_stamp 8 = .ok (.istore_n 2, 1) := by decide +kernel
theorem dX5_stamp_9 : decode cX5_stamp 9 = .ok (.iload_n 2, 1) := by decide +kernel
theorem dX5_stamp_10 : decode cX5_stamp 10 = .ok (.ifCond .eq 5, 3) := by decide +kernel
theorem dX5_stamp_13 : decode cX5_stamp 13 = .ok (.iload_n 2, 1) := by decide +kernel
theorem dX5_stamp_14 : decode cX5_stamp 14 = .ok (.ireturn, 1) := by decide +kernel
theorem dX5_stamp_15 : decode cX5_stamp 15 = .ok (.aload_n 0, 1) := by decide +kernel
theorem dX5_stamp_16 : decode cX5_stamp 16 = .ok (.getfield 25, 3) := by decide +kernel
theorem dX5_stamp_19 : decode cX5_stamp 19 = .ok (.aload_n 0, 1) := by decide +kernel
theorem dX5_stamp_20 : decode cX5_stamp 20 = .ok (.getfield 10, 3) := by decide +kernel
theorem dX5_stamp_23 : decode cX5_stamp 23 = .ok (.invokevirtual 70, 3) := by decide +kernel
theorem dX5_stamp_26 : decode cX5_stamp 26 = .ok (.aload_n 0, 1) := by decide +kernel
theorem dX5_stamp_27 : decode cX5_stamp 27 = .ok (.getfield 10, 3) := by decide +kernel
theorem dX5_stamp_30 : decode cX5_stamp 30 = .ok (.iload_n 1, 1) := by decide +kernel
theorem dX5_stamp_31 : decode cX5_stamp 31 = .ok (.invokevirtual 95, 3) := by decide +kernel
theorem dX5_stamp_34 : decode cX5_stamp 34 = .ok (.ireturn, 1) := by decide +kernel
set_option maxRecDepth 20000 in
theorem ggX5_boast_X4_hasConker : GoodIn wsX5_boast wsX4_hasConker := goodIn_r _ [9, 10, 11, 12, 13, 54, 55, 56, 57, 58, 59, 60, 61, 62, 63, 64, 65, 66] (by decide +kernel) (by decide +kernel)
set_option maxRecDepth 20000 in
theorem gX5_boast_X4_hasConker : GoodIn wsX5_boast (wsV RX5 98 RX4 yX4_hasConker wsX4_hasConker) := goodIn_app (goodIn_of _ (by decide +kernel)) ggX5_boast_X4_hasConker
set_option maxRecDepth 20000 in
theorem ggX5_boast_X5_isWithin : GoodIn wsX5_boast wsX5_isWithin := goodIn_r _ [13] (by decide +kernel) (by decide +kernel)
set_option maxRecDepth 20000 in
theorem gX5_boast_X5_isWithin : GoodIn wsX5_boast (va_wsS RX5 58 yX5_isWithin wsX5_isWithin) := goodIn_app (goodIn_of _ (by decide +kernel)) ggX5_boast_X5_isWithin
set_option maxRecDepth 20000 in
theorem ggX5_boast_X1_keep : GoodIn wsX5_boast wsX1_keep := goodIn_r _ [19, 20, 21, 22, 23, 24, 18, 25, 26, 27, 28, 8, 29, 30, 31, 32, 33, 34, 35, 36, 37, 38, 39, 40, 41, 42, 43, 10, 44, 45, 67, 68, 54, 55, 56, 57, 58, 59, 60, 61, 62, 63, 64, 65, 66] (by decide +kernel) (by decide +kernel)
set_option maxRecDepth 20000 in
theorem gX5_boast_X1_keep : GoodIn wsX5_boast (wsV RX5 70 RX1 yX1_keep wsX1_keep) := goodIn_app (goodIn_of _ (by decide +kernel)) ggX5_boast_X1_keep
theorem dX5_boast_0 : decode cX5_boast 0 = .ok (.aload_n 0, 1) := by decide +kernel
theorem dX5_boast_1 : decode cX5_boast 1 = .ok (.getfield 10, 3) := by decide +kernel
theorem dX5_boast_4 : decode cX5_boast 4 = .ok (.iload_n 1, 1) := by decide +kernel
theorem dX5_boast_5 : decode cX5_boast 5 = .ok (.invokevirtual 98, 3) := by decide +kernel
theorem dX5_boast_8 : decode cX5_boast 8 = .ok (.ifCond .ne 5, 3) := by decide +kernel
theorem dX5_boast_11 : decode cX5_boast 11 = .ok (.iconst (-1), 1) := by decide +kernel
theorem dX5_boast_12 : decode cX5_boast 12 = .ok (.ireturn, 1) := by decide +kernel
theorem dX5_boast_13 : decode cX5_boast 13 = .ok (.iload_n 2, 1) := by decide +kernel
theorem dX5_boast_14 : decode cX5_boast 14 = .ok (.iconst 0, 1) := by decide +kernel
theorem dX5_boast_15 : decode cX5_boast 15 = .ok (.bipush 99, 2) := by decide +kernel
theorem dX5_boast_17 : decode cX5_boast 17 = .ok (.invokestatic 58, 3) := by decide +kernel
theorem dX5_boast_20 : decode cX5_boast 20 = .ok (.ifCond .ne 6, 3) := by decide +kernel
theorem dX5_boast_23 : decode cX5_boast 23 = .ok (.bipush (-2), 2) := by decide +kernel
theorem dX5_boast_25 : decode cX5_boast 25 = .ok (.ireturn, 1) := by decide +kernel
theorem dX5_boast_26 : decode cX5_boast 26 = .ok (.aload_n 0, 1) := by decide +kernel
theorem dX5_boast_27 : decode cX5_boast 27 = .ok (.getfield 10, 3) := by decide +kernel
theorem dX5_boast_30 : decode cX5_boast 30 = .ok (.getfield 101, 3) := by decide +kernel
theorem dX5_boast_33 : decode cX5_boast 33 = .ok (.iload_n 1, 1) := by decide +kernel
theorem dX5_boast_34 : decode cX5_boast 34 = .ok (.iaload, 1) := by decide +kernel
theorem dX5_boast_35 : decode cX5_boast 35 = .ok (.iconst 2, 1) := by decide +kernel
theorem dX5_boast_36 : decode cX5_boast 36 = .ok (.if_icmp .ne 6, 3) := by decide +kernel
theorem dX5_boast_39 : decode cX5_boast 39 = .ok (.bipush (-4), 2) := by decide +kernel
theorem dX5_boast_41 : decode cX5_boast 41 = .ok (.ireturn, 1) := by decide +kernel
theorem dX5_boast_42 : decode cX5_boast 42 = .ok (.aload_n 0, 1) := by decide +kernel
theorem dX5_boast_43 : decode cX5_boast 43 = .ok (.getfield 25, 3) := by decide +kernel
theorem dX5_boast_46 : decode cX5_boast 46 = .ok (.aload_n 0, 1) := by decide +kernel
theorem dX5_boast_47 : decode cX5_boast 47 = .ok (.getfield 10, 3) := by decide +kernel
theorem dX5_boast_50 : decode cX5_boast 50 = .ok (.invokevirtual 70, 3) := by decide +kernel
theorem dX5_boast_53 : decode cX5_boast 53 = .ok (.aload_n 0, 1) := by decide +kernel
theorem dX5_boast_54 : decode cX5_boast 54 = .ok (.getfield 10, 3) := by decide +kernel
theorem dX5_boast_57 : decode cX5_boast 57 = .ok (.getfield 104, 3) := by decide +kernel
theorem dX5_boast_60 : decode cX5_boast 60 = .ok (.iload_n 1, 1) := by decide +kernel
theorem dX5_boast_61 : decode cX5_boast 61 = .ok (.iaload, 1) := by decide +kernel
theorem dX5_boast_62 : decode cX5_boast 62 = .ok (.istore_n 3, 1) := by decide +kernel
theorem dX5_boast_63 : decode cX5_boast 63 = .ok (.aload_n 0, 1) := by decide +kernel
theorem dX5_boast_64 : decode cX5_boast 64 = .ok (.getfield 10, 3) := by decide +kernel
theorem dX5_boast_67 : decode cX5_boast 67 = .ok (.getfield 104, 3) := by decide +kernel
theorem dX5_boast_70 : decode cX5_boast 70 = .ok (.iload_n 1, 1) := by decide +kernel
theorem dX5_boast_71 : decode cX5_boast 71 = .ok (.iload_n 2, 1) := by decide +kernel
theorem dX5_boast_72 : decode cX5_boast 72 = .ok (.iastore, 1) := by decide +kernel
theorem dX5_boast_73 : decode cX5_boast 73 = .ok (.iload_n 3, 1) := by decide +kernel
theorem dX5_boast_74 : decode cX5_boast 74 = .ok (.ireturn, 1) := by decide +kernel
set_option maxRecDepth 20000 in
theorem ggX5_doubt_X5_isPlayer : GoodIn wsX5_doubt wsX5_isPlayer := goodIn_r _ [8, 9, 10, 7, 11] (by decide +kernel) (by decide +kernel)
set_option maxRecDepth 20000 in
theorem gX5_doubt_X5_isPlayer : GoodIn wsX5_doubt (va_wsS RX5 54 yX5_isPlayer wsX5_isPlayer) := goodIn_app (goodIn_of _ (by decide +kernel)) ggX5_doubt_X5_isPlayer
set_option maxRecDepth 20000 in
theorem ggX5_doubt_X4_hasConker : GoodIn wsX5_doubt wsX4_hasConker := goodIn_r _ [16, 17, 10, 7, 11, 61, 62, 63, 64, 65, 66, 67, 68, 69, 70, 71, 72, 73] (by decide +kernel) (by decide +kernel)
set_option maxRecDepth 20000 in
theorem gX5_doubt_X4_hasConker : GoodIn wsX5_doubt (wsV RX5 98 RX4 yX4_hasConker wsX4_hasConker) := goodIn_app (goodIn_of _ (by decide +kernel)) ggX5_doubt_X4_hasConker
set_option maxRecDepth 20000 in
theorem ggX5_doubt_X1_keep : GoodIn wsX5_doubt wsX1_keep := goodIn_r _ [22, 23, 24, 25, 26, 27, 21, 28, 29, 30, 31, 15, 32, 33, 34, 35, 36, 37, 38, 39, 40, 41, 42, 43, 44, 45, 46, 17, 47, 48, 74, 75, 61, 62, 63, 64, 65, 66, 67, 68, 69, 70, 71, 72, 73] (by decide +kernel) (by decide +kernel)
set_option maxRecDepth 20000 in
theorem gX5_doubt_X1_keep : GoodIn wsX5_doubt (wsV RX5 70 RX1 yX1_keep wsX1_keep) := goodIn_app (goodIn_of _ (by decide +kernel)) ggX5_doubt_X1_keep
set_option maxRecDepth 20000 in
theorem ggX5_doubt_X4_settleBoast : GoodIn wsX5_doubt wsX4_settleBoast := goodIn_r _ [52, 44, 43, 39, 38, 61, 62, 63, 64, 65, 66, 67, 68, 69, 70, 71, 72, 73] (by decide +kernel) (by decide +kernel)
set_option maxRecDepth 20000 in
theorem gX5_doubt_X4_settleBoast : GoodIn wsX5_doubt (wsV RX5 110 RX4 yX4_settleBoast wsX4_settleBoast) := goodIn_app (goodIn_of _ (by decide +kernel)) ggX5_doubt_X4_settleBoast
theorem dX5_doubt_0 : decode cX5_doubt 0 = .ok (.iload_n 1, 1) := by decide +kernel
theorem dX5_doubt_1 : decode cX5_doubt 1 = .ok (.invokestatic 54, 3) := by decide +kernel
theorem dX5_doubt_4 : decode cX5_doubt 4 = .ok (.ifCond .eq 14, 3) := by decide +kernel
theorem dX5_doubt_7 : decode cX5_doubt 7 = .ok (.aload_n 0, 1) := by decide +kernel
theorem dX5_doubt_8 : decode cX5_doubt 8 = .ok (.getfield 10, 3) := by decide +kernel
theorem dX5_doubt_11 : decode cX5_doubt 11 = .ok (.iload_n 2, 1) := by decide +kernel
theorem dX5_doubt_12 : decode cX5_doubt 12 = .ok (.invokevirtual 98, 3) := by decide +kernel
theorem dX5_doubt_15 : decode cX5_doubt 15 = .ok (.ifCond .ne 5, 3) := by decide +kernel
theorem dX5_doubt_18 : decode cX5_doubt 18 = .ok (.iconst (-1), 1) := by decide +kernel
theorem dX5_doubt_19 : decode cX5_doubt 19 = .ok (.ireturn, 1) := by decide +kernel
theorem dX5_doubt_20 : decode cX5_doubt 20 = .ok (.aload_n 0, 1) := by decide +kernel
theorem dX5_doubt_21 : decode cX5_doubt 21 = .ok (.getfield 10, 3) := by decide +kernel
theorem dX5_doubt_24 : decode cX5_doubt 24 = .ok (.getfield 107, 3) := by decide +kernel
theorem dX5_doubt_27 : decode cX5_doubt 27 = .ok (.iload_n 2, 1) := by decide +kernel
theorem dX5_doubt_28 : decode cX5_doubt 28 = .ok (.iaload, 1) := by decide +kernel
theorem dX5_doubt_29 : decode cX5_doubt 29 = .ok (.iload_n 1, 1) := by decide +kernel
theorem dX5_doubt_30 : decode cX5_doubt 30 = .ok (.if_icmp .ne 6, 3) := by decide +kernel
theorem dX5_doubt_33 : decode cX5_doubt 33 = .ok (.bipush (-2), 2) := by decide +kernel
theorem dX5_doubt_35 : decode cX5_doubt 35 = .ok (.ireturn, 1) := by decide +kernel
theorem dX5_doubt_36 : decode cX5_doubt 36 = .ok (.aload_n 0, 1) := by decide +kernel
theorem dX5_doubt_37 : decode cX5_doubt 37 = .ok (.getfield 10, 3) := by decide +kernel
theorem dX5_doubt_40 : decode cX5_doubt 40 = .ok (.getfield 104, 3) := by decide +kernel
theorem dX5_doubt_43 : decode cX5_doubt 43 = .ok (.iload_n 2, 1) := by decide +kernel
theorem dX5_doubt_44 : decode cX5_doubt 44 = .ok (.iaload, 1) := by decide +kernel
theorem dX5_doubt_45 : decode cX5_doubt 45 = .ok (.bipush (-5), 2) := by decide +kernel
theorem dX5_doubt_47 : decode cX5_doubt 47 = .ok (.if_icmp .ne 6, 3) := by decide +kernel
theorem dX5_doubt_50 : decode cX5_doubt 50 = .ok (.bipush (-4), 2) := by decide +kernel
theorem dX5_doubt_52 : decode cX5_doubt 52 = .ok (.ireturn, 1) := by decide +kernel
theorem dX5_doubt_53 : decode cX5_doubt 53 = .ok (.aload_n 0, 1) := by decide +kernel
theorem dX5_doubt_54 : decode cX5_doubt 54 = .ok (.getfield 25, 3) := by decide +kernel
theorem dX5_doubt_57 : decode cX5_doubt 57 = .ok (.aload_n 0, 1) := by decide +kernel
theorem dX5_doubt_58 : decode cX5_doubt 58 = .ok (.getfield 10, 3) := by decide +kernel
theorem dX5_doubt_61 : decode cX5_doubt 61 = .ok (.invokevirtual 70, 3) := by decide +kernel
theorem dX5_doubt_64 : decode cX5_doubt 64 = .ok (.aload_n 0, 1) := by decide +kernel
theorem dX5_doubt_65 : decode cX5_doubt 65 = .ok (.getfield 10, 3) := by decide +kernel
theorem dX5_doubt_68 : decode cX5_doubt 68 = .ok (.iload_n 1, 1) := by decide +kernel
theorem dX5_doubt_69 : decode cX5_doubt 69 = .ok (.iload_n 2, 1) := by decide +kernel
theorem dX5_doubt_70 : decode cX5_doubt 70 = .ok (.invokevirtual 110, 3) := by decide +kernel
theorem dX5_doubt_73 : decode cX5_doubt 73 = .ok (.ireturn, 1) := by decide +kernel
set_option maxRecDepth 20000 in
theorem ggX5_bout_X4_boutError : GoodIn wsX5_bout wsX4_boutError := goodIn_r _ [8, 9, 10, 11, 12, 13, 14, 15, 7, 16, 17, 18, 19, 20, 21, 22, 23, 24, 25, 26, 27, 122, 123, 124, 125, 126, 127, 128, 129, 130, 131, 132, 133, 134] (by decide +kernel) (by decide +kernel)
set_option maxRecDepth 20000 in
theorem gX5_bout_X4_boutError : GoodIn wsX5_bout (wsV RX5 113 RX4 yX4_boutError wsX4_boutError) := goodIn_app (goodIn_of _ (by decide +kernel)) ggX5_bout_X4_boutError
set_option maxRecDepth 20000 in
theorem ggX5_bout_X1_keep : GoodIn wsX5_bout wsX1_keep := goodIn_r _ [32, 33, 34, 35, 36, 37, 31, 38, 39, 40, 41, 7, 42, 43, 44, 45, 46, 47, 48, 17, 49, 50, 51, 52, 53, 27, 54, 22, 55, 56, 135, 136, 122, 123, 124, 125, 126, 127, 128, 129, 130, 131, 132, 133, 134] (by decide +kernel) (by decide +kernel)
set_option maxRecDepth 20000 in
theorem gX5_bout_X1_keep : GoodIn wsX5_bout (wsV RX5 70 RX1 yX1_keep wsX1_keep) := goodIn_app (goodIn_of _ (by decide +kernel)) ggX5_bout_X1_keep
set_option maxRecDepth 20000 in
theorem ggX5_bout_X0_begin : GoodIn wsX5_bout wsX0_begin := goodIn_r _ [61, 62, 137] (by decide +kernel) (by decide +kernel)
set_option maxRecDepth 20000 in
theorem gX5_bout_X0_begin : GoodIn wsX5_bout (wsV RX5 116 RX0 yX0_begin wsX0_begin) := goodIn_app (goodIn_of _ (by decide +kernel)) ggX5_bout_X0_begin
set_option maxRecDepth 20000 in
theorem ggX5_bout_X4_fight : GoodIn wsX5_bout wsX4_fight := goodIn_r _ [66, 67, 68, 69, 70, 71, 72, 73, 23, 24, 25, 7, 26, 27, 74, 75, 76, 60, 77, 78, 79, 80, 81, 62, 82, 83, 84, 85, 86, 49, 56, 50, 51, 87, 88, 89, 90, 91, 92, 93, 94, 95, 96, 97, 55, 98, 99, 100, 101, 52, 53, 102, 103, 104, 105, 54, 106, 107, 108, 109, 110, 111, 112, 113, 122, 123, 124, 125, 126, 127, 128, 129, 130, 131, 132, 133, 134, 137] (by decide +kernel) (by decide +kernel)
set_option maxRecDepth 20000 in
theorem gX5_bout_X4_fight : GoodIn wsX5_bout (wsV RX5 120 RX4 yX4_fight wsX4_fight) := goodIn_app (goodIn_of _ (by decide +kernel)) ggX5_bout_X4_fight
theorem dX5_bout_0 : decode cX5_bout 0 = .ok (.aload_n 0, 1) := by decide +kernel
theorem dX5_bout_1 : decode cX5_bout 1 = .ok (.getfield 10, 3) := by decide +kernel
theorem dX5_bout_4 : decode cX5_bout 4 = .ok (.iload_n 1, 1) := by decide +kernel
theorem dX5_bout_5 : decode cX5_bout 5 = .ok (.iload_n 2, 1) := by decide +kernel
theorem dX5_bout_6 : decode cX5_bout 6 = .ok (.iload_n 3, 1) := by decide +kernel
theorem dX5_bout_7 : decode cX5_bout 7 = .ok (.invokevirtual 113, 3) := by decide +kernel
theorem dX5_bout_10 : decode cX5_bout 10 = .ok (.istore 4, 2) := by decide +kernel
theorem dX5_bout_12 : decode cX5_bout 12 = .ok (.iload 4, 2) := by decide +kernel
theorem dX5_bout_14 : decode cX5_bout 14 = .ok (.ifCond .eq 6, 3) := by decide +kernel
theorem dX5_bout_17 : decode cX5_bout 17 = .ok (.iload 4, 2) := by decide +kernel
theorem dX5_bout_19 : decode cX5_bout 19 = .ok (.ireturn, 1) := by decide +kernel
theorem dX5_bout_20 : decode cX5_bout 20 = .ok (.aload_n 0, 1) := by decide +kernel
theorem dX5_bout_21 : decode cX5_bout 21 = .ok (.getfield 25, 3) := by decide +kernel
theorem dX5_bout_24 : decode cX5_bout 24 = .ok (.aload_n 0, 1) := by decide +kernel
theorem dX5_bout_25 : decode cX5_bout 25 = .ok (.getfield 10, 3) := by decide +kernel
theorem dX5_bout_28 : decode cX5_bout 28 = .ok (.invokevirtual 70, 3) := by decide +kernel
theorem dX5_bout_31 : decode cX5_bout 31 = .ok (.aload_n 0, 1) := by decide +kernel
theorem dX5_bout_32 : decode cX5_bout 32 = .ok (.getfield 39, 3) := by decide +kernel
theorem dX5_bout_35 : decode cX5_bout 35 = .ok (.iload_n 3, 1) := by decide +kernel
theorem dX5_bout_36 : decode cX5_bout 36 = .ok (.invokevirtual 116, 3) := by decide +kernel
theorem dX5_bout_39 : decode cX5_bout 39 = .ok (.aload_n 0, 1) := by decide +kernel
theorem dX5_bout_40 : decode cX5_bout 40 = .ok (.getfield 10, 3) := by decide +kernel
theorem dX5_bout_43 : decode cX5_bout 43 = .ok (.iload_n 1, 1) := by decide +kernel
theorem dX5_bout_44 : decode cX5_bout 44 = .ok (.iload_n 2, 1) := by decide +kernel
theorem dX5_bout_45 : decode cX5_bout 45 = .ok (.aload_n 0, 1) := by decide +kernel
theorem dX5_bout_46 : decode cX5_bout 46 = .ok (.getfield 39, 3) := by decide +kernel
theorem dX5_bout_49 : decode cX5_bout 49 = .ok (.invokevirtual 120, 3) := by decide +kernel
theorem dX5_bout_52 : decode cX5_bout 52 = .ok (.ireturn, 1) := by decide +kernel
set_option maxRecDepth 20000 in
theorem ggX5_round_X5_isWithin : GoodIn wsX5_round wsX5_isWithin := goodIn_r _ [10] (by decide +kernel) (by decide +kernel)
set_option maxRecDepth 20000 in
theorem gX5_round_X5_isWithin : GoodIn wsX5_round (va_wsS RX5 58 yX5_isWithin wsX5_isWithin) := goodIn_app (goodIn_of _ (by decide +kernel)) ggX5_round_X5_isWithin
set_option maxRecDepth 20000 in
theorem ggX5_round_X1_keep : GoodIn wsX5_round wsX1_keep := goodIn_r _ [15, 16, 17, 18, 19, 20, 14, 21, 22, 23, 24, 25, 26, 27, 28, 29, 30, 31, 32, 33, 34, 35, 36, 37, 38, 39, 40, 41, 42, 43, 137, 138, 139, 140, 141, 142, 143, 144, 145, 146, 147, 148, 149, 150, 151] (by decide +kernel) (by decide +kernel)
set_option maxRecDepth 20000 in
theorem gX5_round_X1_keep : GoodIn wsX5_round (wsV RX5 70 RX1 yX1_keep wsX1_keep) := goodIn_app (goodIn_of _ (by decide +kernel)) ggX5_round_X1_keep
set_option maxRecDepth 20000 in
theorem ggX5_round_X0_begin : GoodIn wsX5_round wsX0_begin := goodIn_r _ [48, 49, 152] (by decide +kernel) (by decide +kernel)
set_option maxRecDepth 20000 in
theorem gX5_round_X0_begin : GoodIn wsX5_round (wsV RX5 116 RX0 yX0_begin wsX0_begin) := goodIn_app (goodIn_of _ (by decide +kernel)) ggX5_round_X0_begin
set_option maxRecDepth 20000 in
theorem ggX5_round_X2_lineUp : GoodIn wsX5_round wsX2_lineUp := goodIn_r _ [54, 55, 56, 57, 58, 25, 59, 41, 39, 33, 37, 60, 61, 62, 53, 63, 64, 65, 66, 135, 136, 139, 140, 141, 142, 143, 144, 145, 146, 147, 148, 149, 150, 151] (by decide +kernel) (by decide +kernel)
set_option maxRecDepth 20000 in
theorem gX5_round_X2_lineUp : GoodIn wsX5_round (wsV RX5 125 RX2 yX2_lineUp wsX2_lineUp) := goodIn_app (goodIn_of _ (by decide +kernel)) ggX5_round_X2_lineUp
set_option maxRecDepth 20000 in
theorem ggX5_round_X0_next : GoodIn wsX5_round wsX0_next := goodIn_r _ [70, 49, 71, 152] (by decide +kernel) (by decide +kernel)
set_option maxRecDepth 20000 in
theorem gX5_round_X0_next : GoodIn wsX5_round (wsV RX5 131 RX0 yX0_next wsX0_next) := goodIn_app (goodIn_of _ (by decide +kernel)) ggX5_round_X0_next
set_option maxRecDepth 20000 in
theorem ggX5_round_X2_takeOut : GoodIn wsX5_round wsX2_takeOut := goodIn_r _ [75, 66, 55, 135, 136] (by decide +kernel) (by decide +kernel)
set_option maxRecDepth 20000 in
theorem gX5_round_X2_takeOut : GoodIn wsX5_round (wsV RX5 135 RX2 yX2_takeOut wsX2_takeOut) := goodIn_app (goodIn_of _ (by decide +kernel)) ggX5_round_X2_takeOut
set_option maxRecDepth 20000 in
theorem ggX5_round_X4_fight : GoodIn wsX5_round wsX4_fight := goodIn_r _ [79, 80, 81, 82, 83, 84, 85, 86, 87, 88, 89, 25, 90, 39, 91, 92, 93, 47, 94, 95, 68, 69, 70, 49, 71, 96, 97, 98, 99, 34, 43, 35, 36, 100, 101, 102, 103, 104, 105, 106, 107, 108, 109, 110, 42, 111, 112, 113, 114, 37, 38, 115, 116, 117, 118, 40, 119, 120, 121, 122, 123, 124, 125, 126, 139, 140, 141, 142, 143, 144, 145, 146, 147, 148, 149, 150, 151, 152] (by decide +kernel) (by decide +kernel)
set_option maxRecDepth 20000 in
theorem gX5_round_X4_fight : GoodIn wsX5_round (wsV RX5 120 RX4 yX4_fight wsX4_fight) := goodIn_app (goodIn_of _ (by decide +kernel)) ggX5_round_X4_fight
theorem dX5_round_0 : decode cX5_round 0 = .ok (.iload_n 1, 1) := by decide +kernel
theorem dX5_round_1 : decode cX5_round 1 = .ok (.iconst 0, 1) := by decide +kernel
theorem dX5_round_2 : decode cX5_round 2 = .ok (.ldc 124, 2) := by decide +kernel
theorem dX5_round_4 : decode cX5_round 4 = .ok (.invokestatic 58, 3) := by decide +kernel
theorem dX5_round_7 : decode cX5_round 7 = .ok (.ifCond .ne 6, 3) := by decide +kernel
theorem dX5_round_10 : decode cX5_round 10 = .ok (.bipush (-2), 2) := by decide +kernel
theorem dX5_round_12 : decode cX5_round 12 = .ok (.ireturn, 1) := by decide +kernel
theorem dX5_round_13 : decode cX5_round 13 = .ok (.aload_n 0, 1) := by decide +kernel
theorem dX5_round_14 : decode cX5_round 14 = .ok (.getfield 25, 3) := by decide +kernel
theorem dX5_round_17 : decode cX5_round 17 = .ok (.aload_n 0, 1) := by decide +kernel
theorem dX5_round_18 : decode cX5_round 18 = .ok (.getfield 10, 3) := by decide +kernel
theorem dX5_round_21 : decode cX5_round 21 = .ok (.invokevirtual 70, 3) := by decide +kernel
theorem dX5_round_24 : decode cX5_round 24 = .ok (.aload_n 0, 1) := by decide +kernel
theorem dX5_round_25 : decode cX5_round 25 = .ok (.getfield 39, 3) := by decide +kernel
theorem dX5_round_28 : decode cX5_round 28 = .ok (.iload_n 1, 1) := by decide +kernel
theorem dX5_round_29 : decode cX5_round 29 = .ok (.invokevirtual 116, 3) := by decide +kernel
theorem dX5_round_32 : decode cX5_round 32 = .ok (.aload_n 0, 1) := by decide +kernel
theorem dX5_round_33 : decode cX5_round 33 = .ok (.getfield 46, 3) := by decide +kernel
theorem dX5_round_36 : decode cX5_round 36 = .ok (.aload_n 0, 1) := by decide +kernel
theorem dX5_round_37 : decode cX5_round 37 = .ok (.getfield 10, 3) := by decide +kernel
theorem dX5_round_40 : decode cX5_round 40 = .ok (.invokevirtual 125, 3) := by decide +kernel
theorem dX5_round_43 : decode cX5_round 43 = .ok (.iconst 0, 1) := by decide +kernel
theorem dX5_round_44 : decode cX5_round 44 = .ok (.istore_n 2, 1) := by decide +kernel
theorem dX5_round_45 : decode cX5_round 45 = .ok (.iload_n 2, 1) := by decide +kernel
theorem dX5_round_46 : decode cX5_round 46 = .ok (.bipush 6, 2) := by decide +kernel
theorem dX5_round_48 : decode cX5_round 48 = .ok (.if_icmp .ge 72, 3) := by decide +kernel
theorem dX5_round_51 : decode cX5_round 51 = .ok (.aload_n 0, 1) := by decide +kernel
theorem dX5_round_52 : decode cX5_round 52 = .ok (.getfield 46, 3) := by decide +kernel
theorem dX5_round_55 : decode cX5_round 55 = .ok (.getfield 128, 3) := by decide +kernel
theorem dX5_round_58 : decode cX5_round 58 = .ok (.iconst 2, 1) := by decide +kernel
theorem dX5_round_59 : decode cX5_round 59 = .ok (.if_icmp .lt 61, 3) := by decide +kernel
theorem dX5_round_62 : decode cX5_round 62 = .ok (.aload_n 0, 1) := by decide +kernel
theorem dX5_round_63 : decode cX5_round 63 = .ok (.getfield 46, 3) := by decide +kernel
theorem dX5_round_66 : decode cX5_round 66 = .ok (.iconst 1, 1) := by decide +kernel
theorem dX5_round_67 : decode cX5_round 67 = .ok (.aload_n 0, 1) := by decide +kernel
theorem dX5_round_68 : decode cX5_round 68 = .ok (.getfield 39, 3) := by decide +kernel
theorem dX5_round_71 : decode cX5_round 71 = .ok (.invokevirtual 131, 3) := by decide +kernel
theorem dX5_round_74 : decode cX5_round 74 = .ok (.aload_n 0, 1) := by decide +kernel
theorem dX5_round_75 : decode cX5_round 75 = .ok (.getfield 46, 3) := by decide +kernel
theorem dX5_round_78 : decode cX5_round 78 = .ok (.getfield 128, 3) := by decide +kernel
theorem dX5_round_81 : decode cX5_round 81 = .ok (.iconst 1, 1) := by decide +kernel
theorem dX5_round_82 : decode cX5_round 82 = .ok (.isub, 1) := by decide +kernel
theorem dX5_round_83 : decode cX5_round 83 = .ok (.irem, 1) := by decide +kernel
theorem dX5_round_84 : decode cX5_round 84 = .ok (.iadd, 1) := by decide +kernel
theorem dX5_round_85 : decode cX5_round 85 = .ok (.invokevirtual 135, 3) := by decide +kernel
theorem dX5_round_88 : decode cX5_round 88 = .ok (.istore_n 3, 1) := by decide +kernel
theorem dX5_round_89 : decode cX5_round 89 = .ok (.aload_n 0, 1) := by decide +kernel
theorem dX5_round_90 : decode cX5_round 90 = .ok (.getfield 46, 3) := by decide +kernel
theorem dX5_round_93 : decode cX5_round 93 = .ok (.iconst 0, 1) := by decide +kernel
theorem dX5_round_94 : decode cX5_round 94 = .ok (.invokevirtual 135, 3) := by decide +kernel
theorem dX5_round_97 : decode cX5_round 97 = .ok (.istore 4, 2) := by decide +kernel
theorem dX5_round_99 : decode cX5_round 99 = .ok (.aload_n 0, 1) := by decide +kernel
theorem dX5_round_100 : decode cX5_round 100 = .ok (.getfield 10, 3) := by decide +kernel
theorem dX5_round_103 : decode cX5_round 103 = .ok (.iload 4, 2) := by decide +kernel
theorem dX5_round_105 : decode cX5_round 105 = .ok (.iload_n 3, 1) := by decide +kernel
end
section
theorem dX5_round_106 : decode cX5_round 106 = .ok (.aload_n 0, 1) := by decide +kernel
theorem dX5_round_107 : decode cX5_round 107 = .ok (.getfield 39, 3) := by decide +kernel
theorem dX5_round_110 : decode cX5_round 110 = .ok (.invokevirtual 120, 3) := by decide +kernel
theorem dX5_round_113 : decode cX5_round 113 = .ok (.pop, 1) := by decide +kernel
theorem dX5_round_114 : decode cX5_round 114 = .ok (.iinc 2 1, 3) := by decide +kernel
theorem dX5_round_117 : decode cX5_round 117 = .ok (.goto (-72), 3) := by decide +kernel
theorem dX5_round_120 : decode cX5_round 120 = .ok (.iload_n 2, 1) := by decide +kernel
theorem dX5_round_121 : decode cX5_round 121 = .ok (.ireturn, 1) := by decide +kernel
set_option maxRecDepth 20000 in
theorem ggX5_append_X5_isWithin : GoodIn wsX5_append wsX5_isWithin := goodIn_r _ [7] (by decide +kernel) (by decide +kernel)
set_option maxRecDepth 20000 in
theorem gX5_append_X5_isWithin : GoodIn wsX5_append (va_wsS RX5 58 yX5_isWithin wsX5_isWithin) := goodIn_app (goodIn_of _ (by decide +kernel)) ggX5_append_X5_isWithin
theorem dX5_append_0 : decode cX5_append 0 = .ok (.iload_n 1, 1) := by decide +kernel
theorem dX5_append_1 : decode cX5_append 1 = .ok (.bipush 32, 2) := by decide +kernel
theorem dX5_append_3 : decode cX5_append 3 = .ok (.bipush 126, 2) := by decide +kernel
theorem dX5_append_5 : decode cX5_append 5 = .ok (.invokestatic 58, 3) := by decide +kernel
theorem dX5_append_8 : decode cX5_append 8 = .ok (.ifCond .ne 6, 3) := by decide +kernel
theorem dX5_append_11 : decode cX5_append 11 = .ok (.bipush (-2), 2) := by decide +kernel
theorem dX5_append_13 : decode cX5_append 13 = .ok (.ireturn, 1) := by decide +kernel
theorem dX5_append_14 : decode cX5_append 14 = .ok (.aload_n 0, 1) := by decide +kernel
theorem dX5_append_15 : decode cX5_append 15 = .ok (.getfield 32, 3) := by decide +kernel
theorem dX5_append_18 : decode cX5_append 18 = .ok (.getfield 138, 3) := by decide +kernel
theorem dX5_append_21 : decode cX5_append 21 = .ok (.bipush 60, 2) := by decide +kernel
theorem dX5_append_23 : decode cX5_append 23 = .ok (.if_icmp .lt 6, 3) := by decide +kernel
theorem dX5_append_26 : decode cX5_append 26 = .ok (.bipush (-3), 2) := by decide +kernel
theorem dX5_append_28 : decode cX5_append 28 = .ok (.ireturn, 1) := by decide +kernel
theorem dX5_append_29 : decode cX5_append 29 = .ok (.aload_n 0, 1) := by decide +kernel
theorem dX5_append_30 : decode cX5_append 30 = .ok (.getfield 32, 3) := by decide +kernel
theorem dX5_append_33 : decode cX5_append 33 = .ok (.getfield 139, 3) := by decide +kernel
theorem dX5_append_36 : decode cX5_append 36 = .ok (.aload_n 0, 1) := by decide +kernel
theorem dX5_append_37 : decode cX5_append 37 = .ok (.getfield 32, 3) := by decide +kernel
theorem dX5_append_40 : decode cX5_append 40 = .ok (.getfield 138, 3) := by decide +kernel
theorem dX5_append_43 : decode cX5_append 43 = .ok (.iload_n 1, 1) := by decide +kernel
theorem dX5_append_44 : decode cX5_append 44 = .ok (.i2c, 1) := by decide +kernel
theorem dX5_append_45 : decode cX5_append 45 = .ok (.castore, 1) := by decide +kernel
theorem dX5_append_46 : decode cX5_append 46 = .ok (.aload_n 0, 1) := by decide +kernel
theorem dX5_append_47 : decode cX5_append 47 = .ok (.getfield 32, 3) := by decide +kernel
theorem dX5_append_50 : decode cX5_append 50 = .ok (.dup, 1) := by decide +kernel
theorem dX5_append_51 : decode cX5_append 51 = .ok (.getfield 138, 3) := by decide +kernel
theorem dX5_append_54 : decode cX5_append 54 = .ok (.iconst 1, 1) := by decide +kernel
theorem dX5_append_55 : decode cX5_append 55 = .ok (.iadd, 1) := by decide +kernel
theorem dX5_append_56 : decode cX5_append 56 = .ok (.putfield 138, 3) := by decide +kernel
theorem dX5_append_59 : decode cX5_append 59 = .ok (.aload_n 0, 1) := by decide +kernel
theorem dX5_append_60 : decode cX5_append 60 = .ok (.getfield 32, 3) := by decide +kernel
theorem dX5_append_63 : decode cX5_append 63 = .ok (.getfield 138, 3) := by decide +kernel
theorem dX5_append_66 : decode cX5_append 66 = .ok (.ireturn, 1) := by decide +kernel
theorem dX5_clearText_0 : decode cX5_clearText 0 = .ok (.aload_n 0, 1) := by decide +kernel
theorem dX5_clearText_1 : decode cX5_clearText 1 = .ok (.getfield 32, 3) := by decide +kernel
theorem dX5_clearText_4 : decode cX5_clearText 4 = .ok (.getfield 138, 3) := by decide +kernel
theorem dX5_clearText_7 : decode cX5_clearText 7 = .ok (.istore_n 1, 1) := by decide +kernel
theorem dX5_clearText_8 : decode cX5_clearText 8 = .ok (.aload_n 0, 1) := by decide +kernel
theorem dX5_clearText_9 : decode cX5_clearText 9 = .ok (.getfield 32, 3) := by decide +kernel
theorem dX5_clearText_12 : decode cX5_clearText 12 = .ok (.iconst 0, 1) := by decide +kernel
theorem dX5_clearText_13 : decode cX5_clearText 13 = .ok (.putfield 138, 3) := by decide +kernel
theorem dX5_clearText_16 : decode cX5_clearText 16 = .ok (.iload_n 1, 1) := by decide +kernel
theorem dX5_clearText_17 : decode cX5_clearText 17 = .ok (.ireturn, 1) := by decide +kernel
set_option maxRecDepth 20000 in
theorem ggX5_fault_X3_findFault : GoodIn wsX5_fault wsX3_findFault := goodIn_r _ [6, 7, 8, 9, 10, 11, 5, 12, 13, 14, 15, 16, 17, 18, 19, 20, 21, 22, 23, 24, 25, 26, 27, 28, 29, 30, 31, 32, 33, 34, 35, 36, 37, 46, 47, 48, 49, 50, 51, 52] (by decide +kernel) (by decide +kernel)
set_option maxRecDepth 20000 in
theorem gX5_fault_X3_findFault : GoodIn wsX5_fault (wsV RX5 143 RX3 yX3_findFault wsX3_findFault) := goodIn_app (goodIn_of _ (by decide +kernel)) ggX5_fault_X3_findFault
theorem dX5_fault_0 : decode cX5_fault 0 = .ok (.aload_n 0, 1) := by decide +kernel
theorem dX5_fault_1 : decode cX5_fault 1 = .ok (.getfield 32, 3) := by decide +kernel
theorem dX5_fault_4 : decode cX5_fault 4 = .ok (.invokevirtual 143, 3) := by decide +kernel
theorem dX5_fault_7 : decode cX5_fault 7 = .ok (.ireturn, 1) := by decide +kernel
set_option maxRecDepth 20000 in
theorem ggX5_run_X3_findFault : GoodIn wsX5_run wsX3_findFault := goodIn_r _ [8, 9, 10, 11, 12, 13, 7, 14, 15, 16, 17, 18, 19, 20, 21, 22, 23, 24, 25, 26, 27, 28, 29, 30, 31, 32, 33, 34, 35, 36, 37, 38, 39, 160, 161, 162, 163, 164, 165, 166] (by decide +kernel) (by decide +kernel)
set_option maxRecDepth 20000 in
theorem gX5_run_X3_findFault : GoodIn wsX5_run (wsV RX5 143 RX3 yX3_findFault wsX3_findFault) := goodIn_app (goodIn_of _ (by decide +kernel)) ggX5_run_X3_findFault
set_option maxRecDepth 20000 in
theorem ggX5_run_X1_keep : GoodIn wsX5_run wsX1_keep := goodIn_r _ [44, 45, 46, 47, 48, 49, 43, 50, 51, 52, 53, 54, 55, 56, 57, 58, 59, 60, 61, 62, 63, 64, 65, 66, 67, 68, 69, 70, 71, 72, 167, 168, 169, 170, 171, 172, 173, 174, 175, 176, 177, 178, 179, 180, 181] (by decide +kernel) (by decide +kernel)
set_option maxRecDepth 20000 in
theorem gX5_run_X1_keep : GoodIn wsX5_run (wsV RX5 70 RX1 yX1_keep wsX1_keep) := goodIn_app (goodIn_of _ (by decide +kernel)) ggX5_run_X1_keep
set_option maxRecDepth 20000 in
theorem ggX5_run_X3_rewind : GoodIn wsX5_run wsX3_rewind := goodIn_r _ [14, 9, 160, 161, 162, 163, 164, 165, 166] (by decide +kernel) (by decide +kernel)
set_option maxRecDepth 20000 in
theorem gX5_run_X3_rewind : GoodIn wsX5_run (wsV RX5 146 RX3 yX3_rewind wsX3_rewind) := goodIn_app (goodIn_of _ (by decide +kernel)) ggX5_run_X3_rewind
set_option maxRecDepth 20000 in
theorem ggX5_run_X3_readOrder : GoodIn wsX5_run wsX3_readOrder := goodIn_r _ [18, 19, 9, 20, 21, 22, 23, 24, 25, 7, 26, 10, 27, 28, 29, 30, 31, 32, 33, 34, 35, 36, 37, 38, 39, 160, 161, 162, 163, 164, 165, 166] (by decide +kernel) (by decide +kernel)
set_option maxRecDepth 20000 in
theorem gX5_run_X3_readOrder : GoodIn wsX5_run (wsV RX5 149 RX3 yX3_readOrder wsX3_readOrder) := goodIn_app (goodIn_of _ (by decide +kernel)) ggX5_run_X3_readOrder
set_option maxRecDepth 20000 in
theorem ggX5_run_X5_carryOutOrder : GoodIn wsX5_run wsX5_carryOutOrder := goodIn_r _ [79, 1, 80, 3, 81, 82, 83, 84, 85, 86, 54, 87, 56, 62, 88, 89, 90, 91, 68, 92, 93, 94, 95, 70, 96, 78, 97, 98, 99, 100, 101, 65, 102, 103, 104, 105, 106, 71, 107, 108, 109, 110, 66, 67, 111, 112, 113, 114, 115, 116, 117, 118, 119, 120, 121, 122, 123, 124, 125, 126, 63, 72, 64, 127, 128, 129, 130, 131, 132, 133, 134, 135, 136, 137, 138, 139, 140, 141, 142, 69, 143, 144, 145, 146, 147, 148, 149, 150, 152, 153, 154, 155, 156, 157, 158, 159, 160, 161, 162, 163, 164, 165, 166, 169, 170, 171, 172, 173, 174, 175, 176, 177, 178, 179, 180, 181] (by decide +kernel) (by decide +kernel)
set_option maxRecDepth 20000 in
theorem gX5_run_X5_carryOutOrder : GoodIn wsX5_run (wsV RX5 153 RX5 yX5_carryOutOrder wsX5_carryOutOrder) := goodIn_app (goodIn_of _ (by decide +kernel)) ggX5_run_X5_carryOutOrder
set_option maxRecDepth 20000 in
theorem ggX5_run_X3_take : GoodIn wsX5_run wsX3_take := goodIn_r _ [39, 9, 23, 24, 25, 7, 26, 10, 27, 160, 161, 162, 163, 164, 165, 166] (by decide +kernel) (by decide +kernel)
set_option maxRecDepth 20000 in
theorem gX5_run_X3_take : GoodIn wsX5_run (wsV RX5 156 RX3 yX3_take wsX3_take) := goodIn_app (goodIn_of _ (by decide +kernel)) ggX5_run_X3_take
theorem dX5_run_0 : decode cX5_run 0 = .ok (.aload_n 0, 1) := by decide +kernel
theorem dX5_run_1 : decode cX5_run 1 = .ok (.getfield 32, 3) := by decide +kernel
theorem dX5_run_4 : decode cX5_run 4 = .ok (.invokevirtual 143, 3) := by decide +kernel
theorem dX5_run_7 : decode cX5_run 7 = .ok (.istore_n 1, 1) := by decide +kernel
theorem dX5_run_8 : decode cX5_run 8 = .ok (.iload_n 1, 1) := by decide +kernel
theorem dX5_run_9 : decode cX5_run 9 = .ok (.bipush (-5), 2) := by decide +kernel
theorem dX5_run_11 : decode cX5_run 11 = .ok (.if_icmp .eq 8, 3) := by decide +kernel
theorem dX5_run_14 : decode cX5_run 14 = .ok (.bipush (-100), 2) := by decide +kernel
theorem dX5_run_16 : decode cX5_run 16 = .ok (.iload_n 1, 1) := by decide +kernel
theorem dX5_run_17 : decode cX5_run 17 = .ok (.isub, 1) := by decide +kernel
theorem dX5_run_18 : decode cX5_run 18 = .ok (.ireturn, 1) := by decide +kernel
theorem dX5_run_19 : decode cX5_run 19 = .ok (.aload_n 0, 1) := by decide +kernel
theorem dX5_run_20 : decode cX5_run 20 = .ok (.getfield 25, 3) := by decide +kernel
theorem dX5_run_23 : decode cX5_run 23 = .ok (.aload_n 0, 1) := by decide +kernel
theorem dX5_run_24 : decode cX5_run 24 = .ok (.getfield 10, 3) := by decide +kernel
theorem dX5_run_27 : decode cX5_run 27 = .ok (.invokevirtual 70, 3) := by decide +kernel
theorem dX5_run_30 : decode cX5_run 30 = .ok (.aload_n 0, 1) := by decide +kernel
theorem dX5_run_31 : decode cX5_run 31 = .ok (.getfield 32, 3) := by decide +kernel
theorem dX5_run_34 : decode cX5_run 34 = .ok (.invokevirtual 146, 3) := by decide +kernel
theorem dX5_run_37 : decode cX5_run 37 = .ok (.iconst 0, 1) := by decide +kernel
theorem dX5_run_38 : decode cX5_run 38 = .ok (.istore_n 2, 1) := by decide +kernel
theorem dX5_run_39 : decode cX5_run 39 = .ok (.iload_n 2, 1) := by decide +kernel
theorem dX5_run_40 : decode cX5_run 40 = .ok (.bipush 60, 2) := by decide +kernel
theorem dX5_run_42 : decode cX5_run 42 = .ok (.if_icmp .ge 37, 3) := by decide +kernel
theorem dX5_run_45 : decode cX5_run 45 = .ok (.aload_n 0, 1) := by decide +kernel
theorem dX5_run_46 : decode cX5_run 46 = .ok (.getfield 32, 3) := by decide +kernel
theorem dX5_run_49 : decode cX5_run 49 = .ok (.invokevirtual 149, 3) := by decide +kernel
theorem dX5_run_52 : decode cX5_run 52 = .ok (.ifCond .eq 27, 3) := by decide +kernel
theorem dX5_run_55 : decode cX5_run 55 = .ok (.aload_n 0, 1) := by decide +kernel
theorem dX5_run_56 : decode cX5_run 56 = .ok (.invokevirtual 153, 3) := by decide +kernel
theorem dX5_run_59 : decode cX5_run 59 = .ok (.ifCond .lt 20, 3) := by decide +kernel
theorem dX5_run_62 : decode cX5_run 62 = .ok (.iinc 2 1, 3) := by decide +kernel
theorem dX5_run_65 : decode cX5_run 65 = .ok (.aload_n 0, 1) := by decide +kernel
theorem dX5_run_66 : decode cX5_run 66 = .ok (.getfield 32, 3) := by decide +kernel
theorem dX5_run_69 : decode cX5_run 69 = .ok (.bipush 44, 2) := by decide +kernel
theorem dX5_run_71 : decode cX5_run 71 = .ok (.invokevirtual 156, 3) := by decide +kernel
theorem dX5_run_74 : decode cX5_run 74 = .ok (.ifCond .ne (-35), 3) := by decide +kernel
theorem dX5_run_77 : decode cX5_run 77 = .ok (.iload_n 2, 1) := by decide +kernel
theorem dX5_run_78 : decode cX5_run 78 = .ok (.ireturn, 1) := by decide +kernel
theorem dX5_run_79 : decode cX5_run 79 = .ok (.iload_n 2, 1) := by decide +kernel
theorem dX5_run_80 : decode cX5_run 80 = .ok (.ireturn, 1) := by decide +kernel
set_option maxRecDepth 20000 in
theorem ggX5_undo_X1_bringBack : GoodIn wsX5_undo wsX1_bringBack := goodIn_r _ [7, 8, 9, 10, 11, 12, 13, 14, 15, 16, 17, 18, 19, 20, 21, 22, 23, 24, 25, 26, 27, 28, 29, 30, 31, 40, 41, 42, 43, 44, 45, 46, 47, 48, 49, 50, 51, 52, 53, 54] (by decide +kernel) (by decide +kernel)
set_option maxRecDepth 20000 in
theorem gX5_undo_X1_bringBack : GoodIn wsX5_undo (wsV RX5 160 RX1 yX1_bringBack wsX1_bringBack) := goodIn_app (goodIn_of _ (by decide +kernel)) ggX5_undo_X1_bringBack
theorem dX5_undo_0 : decode cX5_undo 0 = .ok (.aload_n 0, 1) := by decide +kernel
theorem dX5_undo_1 : decode cX5_undo 1 = .ok (.getfield 25, 3) := by decide +kernel
theorem dX5_undo_4 : decode cX5_undo 4 = .ok (.aload_n 0, 1) := by decide +kernel
theorem dX5_undo_5 : decode cX5_undo 5 = .ok (.getfield 10, 3) := by decide +kernel
theorem dX5_undo_8 : decode cX5_undo 8 = .ok (.invokevirtual 160, 3) := by decide +kernel
theorem dX5_undo_11 : decode cX5_undo 11 = .ok (.ireturn, 1) := by decide +kernel
set_option maxRecDepth 20000 in
theorem ggX5_save_X4_copyFrom : GoodIn wsX5_save wsX4_copyFrom := goodIn_r _ [8, 9, 10, 11, 12, 13, 14, 15, 16, 17, 18, 19, 20, 21, 22, 23, 24, 25, 42, 43, 44, 45, 46, 47, 48, 49, 50, 51, 52, 53, 54] (by decide +kernel) (by decide +kernel)
set_option maxRecDepth 20000 in
theorem gX5_save_X4_copyFrom : GoodIn wsX5_save (wsV RX5 164 RX4 yX4_copyFrom wsX4_copyFrom) := goodIn_app (goodIn_of _ (by decide +kernel)) ggX5_save_X4_copyFrom
set_option maxRecDepth 20000 in
theorem ggX5_save_X4_conkersBeing : GoodIn wsX5_save wsX4_conkersBeing := goodIn_r _ [29, 23, 21, 30, 31, 32, 7, 33, 15, 42, 43, 44, 45, 46, 47, 48, 49, 50, 51, 52, 53, 54] (by decide +kernel) (by decide +kernel)
set_option maxRecDepth 20000 in
theorem gX5_save_X4_conkersBeing : GoodIn wsX5_save (wsV RX5 167 RX4 yX4_conkersBeing wsX4_conkersBeing) := goodIn_app (goodIn_of _ (by decide +kernel)) ggX5_save_X4_conkersBeing
theorem dX5_save_0 : decode cX5_save 0 = .ok (.aload_n 0, 1) := by decide +kernel
theorem dX5_save_1 : decode cX5_save 1 = .ok (.getfield 16, 3) := by decide +kernel
theorem dX5_save_4 : decode cX5_save 4 = .ok (.aload_n 0, 1) := by decide +kernel
theorem dX5_save_5 : decode cX5_save 5 = .ok (.getfield 10, 3) := by decide +kernel
theorem dX5_save_8 : decode cX5_save 8 = .ok (.invokevirtual 164, 3) := by decide +kernel
theorem dX5_save_11 : decode cX5_save 11 = .ok (.aload_n 0, 1) := by decide +kernel
theorem dX5_save_12 : decode cX5_save 12 = .ok (.iconst 1, 1) := by decide +kernel
theorem dX5_save_13 : decode cX5_save 13 = .ok (.putfield 50, 3) := by decide +kernel
theorem dX5_save_16 : decode cX5_save 16 = .ok (.aload_n 0, 1) := by decide +kernel
theorem dX5_save_17 : decode cX5_save 17 = .ok (.getfield 10, 3) := by decide +kernel
theorem dX5_save_20 : decode cX5_save 20 = .ok (.iconst 0, 1) := by decide +kernel
theorem dX5_save_21 : decode cX5_save 21 = .ok (.iconst (-1), 1) := by decide +kernel
theorem dX5_save_22 : decode cX5_save 22 = .ok (.invokevirtual 167, 3) := by decide +kernel
theorem dX5_save_25 : decode cX5_save 25 = .ok (.ireturn, 1) := by decide +kernel
set_option maxRecDepth 20000 in
theorem ggX5_restore_X1_keep : GoodIn wsX5_restore wsX1_keep := goodIn_r _ [9, 10, 11, 12, 13, 14, 8, 15, 16, 17, 18, 19, 20, 21, 22, 23, 24, 25, 26, 27, 28, 29, 30, 31, 32, 33, 34, 35, 36, 37, 55, 56, 57, 58, 59, 60, 61, 62, 63, 64, 65, 66, 67, 68, 69] (by decide +kernel) (by decide +kernel)
set_option maxRecDepth 20000 in
theorem gX5_restore_X1_keep : GoodIn wsX5_restore (wsV RX5 70 RX1 yX1_keep wsX1_keep) := goodIn_app (goodIn_of _ (by decide +kernel)) ggX5_restore_X1_keep
set_option maxRecDepth 20000 in
theorem ggX5_restore_X4_copyFrom : GoodIn wsX5_restore wsX4_copyFrom := goodIn_r _ [20, 21, 22, 23, 24, 25, 26, 27, 28, 29, 30, 31, 32, 33, 34, 35, 36, 37, 57, 58, 59, 60, 61, 62, 63, 64, 65, 66, 67, 68, 69] (by decide +kernel) (by decide +kernel)
set_option maxRecDepth 20000 in
theorem gX5_restore_X4_copyFrom : GoodIn wsX5_restore (wsV RX5 164 RX4 yX4_copyFrom wsX4_copyFrom) := goodIn_app (goodIn_of _ (by decide +kernel)) ggX5_restore_X4_copyFrom
set_option maxRecDepth 20000 in
theorem ggX5_restore_X4_conkersBeing : GoodIn wsX5_restore wsX4_conkersBeing := goodIn_r _ [42, 35, 33, 43, 44, 45, 19, 46, 27, 57, 58, 59, 60, 61, 62, 63, 64, 65, 66, 67, 68, 69] (by decide +kernel) (by decide +kernel)
set_option maxRecDepth 20000 in
theorem gX5_restore_X4_conkersBeing : GoodIn wsX5_restore (wsV RX5 167 RX4 yX4_conkersBeing wsX4_conkersBeing) := goodIn_app (goodIn_of _ (by decide +kernel)) ggX5_restore_X4_conkersBeing
theorem dX5_restore_0 : decode cX5_restore 0 = .ok (.aload_n 0, 1) := by decide +kernel
theorem dX5_restore_1 : decode cX5_restore 1 = .ok (.getfield 50, 3) := by decide +kernel
theorem dX5_restore_4 : decode cX5_restore 4 = .ok (.ifCond .ne 6, 3) := by decide +kernel
theorem dX5_restore_7 : decode cX5_restore 7 = .ok (.bipush (-4), 2) := by decide +kernel
theorem dX5_restore_9 : decode cX5_restore 9 = .ok (.ireturn, 1) := by decide +kernel
theorem dX5_restore_10 : decode cX5_restore 10 = .ok (.aload_n 0, 1) := by decide +kernel
theorem dX5_restore_11 : decode cX5_restore 11 = .ok (.getfield 25, 3) := by decide +kernel
theorem dX5_restore_14 : decode cX5_restore 14 = .ok (.aload_n 0, 1) := by decide +kernel
theorem dX5_restore_15 : decode cX5_restore 15 = .ok (.getfield 10, 3) := by decide +kernel
theorem dX5_restore_18 : decode cX5_restore 18 = .ok (.invokevirtual 70, 3) := by decide +kernel
theorem dX5_restore_21 : decode cX5_restore 21 = .ok (.aload_n 0, 1) := by decide +kernel
theorem dX5_restore_22 : decode cX5_restore 22 = .ok (.getfield 10, 3) := by decide +kernel
theorem dX5_restore_25 : decode cX5_restore 25 = .ok (.aload_n 0, 1) := by decide +kernel
theorem dX5_restore_26 : decode cX5_restore 26 = .ok (.getfield 16, 3) := by decide +kernel
theorem dX5_restore_29 : decode cX5_restore 29 = .ok (.invokevirtual 164, 3) := by decide +kernel
theorem dX5_restore_32 : decode cX5_restore 32 = .ok (.aload_n 0, 1) := by decide +kernel
theorem dX5_restore_33 : decode cX5_restore 33 = .ok (.getfield 10, 3) := by decide +kernel
theorem dX5_restore_36 : decode cX5_restore 36 = .ok (.iconst 0, 1) := by decide +kernel
theorem dX5_restore_37 : decode cX5_restore 37 = .ok (.iconst (-1), 1) := by decide +kernel
theorem dX5_restore_38 : decode cX5_restore 38 = .ok (.invokevirtual 167, 3) := by decide +kernel
theorem dX5_restore_41 : decode cX5_restore 41 = .ok (.ireturn, 1) := by decide +kernel
set_option maxRecDepth 20000 in
theorem ggX5_conker_X4_hasConker : GoodIn wsX5_conker wsX4_hasConker := goodIn_r _ [14, 15, 16, 17, 18, 32, 33, 34, 35, 36, 37, 38, 39, 40, 41, 42, 43, 44] (by decide +kernel) (by decide +kernel)
set_option maxRecDepth 20000 in
theorem gX5_conker_X4_hasConker : GoodIn wsX5_conker (wsV RX5 98 RX4 yX4_hasConker wsX4_hasConker) := goodIn_app (goodIn_of _ (by decide +kernel)) ggX5_conker_X4_hasConker
set_option maxRecDepth 20000 in
theorem ggX5_conker_X4_conkersSmashedBy : GoodIn wsX5_conker wsX4_conkersSmashedBy := goodIn_r _ [22, 15, 23, 32, 33, 34, 35, 36, 37, 38, 39, 40, 41, 42, 43, 44] (by decide +kernel) (by decide +kernel)
set_option maxRecDepth 20000 in
theorem gX5_conker_X4_conkersSmashedBy : GoodIn wsX5_conker (wsV RX5 185 RX4 yX4_conkersSmashedBy wsX4_conkersSmashedBy) := goodIn_app (goodIn_of _ (by decide +kernel)) ggX5_conker_X4_conkersSmashedBy
theorem dX5_conker_0 : decode cX5_conker 0 = .ok (.aload_n 0, 1) := by decide +kernel
theorem dX5_conker_1 : decode cX5_conker 1 = .ok (.getfield 10, 3) := by decide +kernel
theorem dX5_conker_4 : decode cX5_conker 4 = .ok (.iload_n 1, 1) := by decide +kernel
theorem dX5_conker_5 : decode cX5_conker 5 = .ok (.invokevirtual 98, 3) := by decide +kernel
theorem dX5_conker_8 : decode cX5_conker 8 = .ok (.ifCond .ne 5, 3) := by decide +kernel
theorem dX5_conker_11 : decode cX5_conker 11 = .ok (.iconst (-1), 1) := by decide +kernel
theorem dX5_conker_12 : decode cX5_conker 12 = .ok (.ireturn, 1) := by decide +kernel
theorem dX5_conker_13 : decode cX5_conker 13 = .ok (.iload_n 2, 1) := by decide +kernel
theorem dX5_conker_14 : decode cX5_conker 14 = .ok (.tableswitch 139 0 8 #[50, 60, 70, 80, 90, 100, 110, 120, 130], 50) := by decide +kernel
theorem dX5_conker_64 : decode cX5_conker 64 = .ok (.aload_n 0, 1) := by decide +kernel
theorem dX5_conker_65 : decode cX5_conker 65 = .ok (.getfield 10, 3) := by decide +kernel
theorem dX5_conker_68 : decode cX5_conker 68 = .ok (.getfield 107, 3) := by decide +kernel
theorem dX5_conker_71 : decode cX5_conker 71 = .ok (.iload_n 1, 1) := by decide +kernel
theorem dX5_conker_72 : decode cX5_conker 72 = .ok (.iaload, 1) := by decide +kernel
theorem dX5_conker_73 : decode cX5_conker 73 = .ok (.ireturn, 1) := by decide +kernel
theorem dX5_conker_74 : decode cX5_conker 74 = .ok (.aload_n 0, 1) := by decide +kernel
theorem dX5_conker_75 : decode cX5_conker 75 = .ok (.getfield 10, 3) := by decide +kernel
theorem dX5_conker_78 : decode cX5_conker 78 = .ok (.getfield 170, 3) := by decide +kernel
theorem dX5_conker_81 : decode cX5_conker 81 = .ok (.iload_n 1, 1) := by decide +kernel
theorem dX5_conker_82 : decode cX5_conker 82 = .ok (.iaload, 1) := by decide +kernel
theorem dX5_conker_83 : decode cX5_conker 83 = .ok (.ireturn, 1) := by decide +kernel
theorem dX5_conker_84 : decode cX5_conker 84 = .ok (.aload_n 0, 1) := by decide +kernel
theorem dX5_conker_85 : decode cX5_conker 85 = .ok (.getfield 10, 3) := by decide +kernel
theorem dX5_conker_88 : decode cX5_conker 88 = .ok (.getfield 173, 3) := by decide +kernel
theorem dX5_conker_91 : decode cX5_conker 91 = .ok (.iload_n 1, 1) := by decide +kernel
theorem dX5_conker_92 : decode cX5_conker 92 = .ok (.iaload, 1) := by decide +kernel
theorem dX5_conker_93 : decode cX5_conker 93 = .ok (.ireturn, 1) := by decide +kernel
theorem dX5_conker_94 : decode cX5_conker 94 = .ok (.aload_n 0, 1) := by decide +kernel
theorem dX5_conker_95 : decode cX5_conker 95 = .ok (.getfield 10, 3) := by decide +kernel
theorem dX5_conker_98 : decode cX5_conker 98 = .ok (.getfield 176, 3) := by decide +kernel
theorem dX5_conker_101 : decode cX5_conker 101 = .ok (.iload_n 1, 1) := by decide +kernel
theorem dX5_conker_102 : decode cX5_conker 102 = .ok (.iaload, 1) := by decide +kernel
theorem dX5_conker_103 : decode cX5_conker 103 = .ok (.ireturn, 1) := by decide +kernel
theorem dX5_conker_104 : decode cX5_conker 104 = .ok (.aload_n 0, 1) := by decide +kernel
theorem dX5_conker_105 : decode cX5_conker 105 = .ok (.getfield 10, 3) := by decide +kernel
theorem dX5_conker_108 : decode cX5_conker 108 = .ok (.getfield 179, 3) := by decide +kernel
theorem dX5_conker_111 : decode cX5_conker 111 = .ok (.iload_n 1, 1) := by decide +kernel
theorem dX5_conker_112 : decode cX5_conker 112 = .ok (.iaload, 1) := by decide +kernel
theorem dX5_conker_113 : decode cX5_conker 113 = .ok (.ireturn, 1) := by decide +kernel
theorem dX5_conker_114 : decode cX5_conker 114 = .ok (.aload_n 0, 1) := by decide +kernel
theorem dX5_conker_115 : decode cX5_conker 115 = .ok (.getfield 10, 3) := by decide +kernel
theorem dX5_conker_118 : decode cX5_conker 118 = .ok (.getfield 104, 3) := by decide +kernel
theorem dX5_conker_121 : decode cX5_conker 121 = .ok (.iload_n 1, 1) := by decide +kernel
theorem dX5_conker_122 : decode cX5_conker 122 = .ok (.iaload, 1) := by decide +kernel
theorem dX5_conker_123 : decode cX5_conker 123 = .ok (.ireturn, 1) := by decide +kernel
theorem dX5_conker_124 : decode cX5_conker 124 = .ok (.aload_n 0, 1) := by decide +kernel
theorem dX5_conker_125 : decode cX5_conker 125 = .ok (.getfield 10, 3) := by decide +kernel
theorem dX5_conker_128 : decode cX5_conker 128 = .ok (.getfield 101, 3) := by decide +kernel
theorem dX5_conker_131 : decode cX5_conker 131 = .ok (.iload_n 1, 1) := by decide +kernel
theorem dX5_conker_132 : decode cX5_conker 132 = .ok (.iaload, 1) := by decide +kernel
theorem dX5_conker_133 : decode cX5_conker 133 = .ok (.ireturn, 1) := by decide +kernel
theorem dX5_conker_134 : decode cX5_conker 134 = .ok (.aload_n 0, 1) := by decide +kernel
theorem dX5_conker_135 : decode cX5_conker 135 = .ok (.getfield 10, 3) := by decide +kernel
theorem dX5_conker_138 : decode cX5_conker 138 = .ok (.getfield 182, 3) := by decide +kernel
theorem dX5_conker_141 : decode cX5_conker 141 = .ok (.iload_n 1, 1) := by decide +kernel
theorem dX5_conker_142 : decode cX5_conker 142 = .ok (.iaload, 1) := by decide +kernel
theorem dX5_conker_143 : decode cX5_conker 143 = .ok (.ireturn, 1) := by decide +kernel
theorem dX5_conker_144 : decode cX5_conker 144 = .ok (.aload_n 0, 1) := by decide +kernel
theorem dX5_conker_145 : decode cX5_conker 145 = .ok (.getfield 10, 3) := by decide +kernel
theorem dX5_conker_148 : decode cX5_conker 148 = .ok (.iload_n 1, 1) := by decide +kernel
theorem dX5_conker_149 : decode cX5_conker 149 = .ok (.invokevirtual 185, 3) := by decide +kernel
theorem dX5_conker_152 : decode cX5_conker 152 = .ok (.ireturn, 1) := by decide +kernel
theorem dX5_conker_153 : decode cX5_conker 153 = .ok (.bipush (-2), 2) := by decide +kernel
theorem dX5_conker_155 : decode cX5_conker 155 = .ok (.ireturn, 1) := by decide +kernel
set_option maxRecDepth 20000 in
theorem ggX5_player_X5_isPlayer : GoodIn wsX5_player wsX5_isPlayer := goodIn_r _ [7, 8, 9, 6, 10] (by decide +kernel) (by decide +kernel)
set_option maxRecDepth 20000 in
theorem gX5_player_X5_isPlayer : GoodIn wsX5_player (va_wsS RX5 54 yX5_isPlayer wsX5_isPlayer) := goodIn_app (goodIn_of _ (by decide +kernel)) ggX5_player_X5_isPlayer
set_option maxRecDepth 20000 in
theorem ggX5_player_X4_conkersBeing : GoodIn wsX5_player wsX4_conkersBeing := goodIn_r _ [15, 16, 17, 18, 19, 20, 14, 21, 22, 40, 41, 42, 43, 44, 45, 46, 47, 48, 49, 50, 51, 52] (by decide +kernel) (by decide +kernel)
set_option maxRecDepth 20000 in
theorem gX5_player_X4_conkersBeing : GoodIn wsX5_player (wsV RX5 167 RX4 yX4_conkersBeing wsX4_conkersBeing) := goodIn_app (goodIn_of _ (by decide +kernel)) ggX5_player_X4_conkersBeing
set_option maxRecDepth 20000 in
theorem ggX5_player_X4_victoriesOf : GoodIn wsX5_player wsX4_victoriesOf := goodIn_r _ [26, 16, 27, 18, 19, 20, 14, 21, 22, 40, 41, 42, 43, 44, 45, 46, 47, 48, 49, 50, 51, 52] (by decide +kernel) (by decide +kernel)
set_option maxRecDepth 20000 in
theorem gX5_player_X4_victoriesOf : GoodIn wsX5_player (wsV RX5 191 RX4 yX4_victoriesOf wsX4_victoriesOf) := goodIn_app (goodIn_of _ (by decide +kernel)) ggX5_player_X4_victoriesOf
set_option maxRecDepth 20000 in
theorem ggX5_player_X4_conkerToSend : GoodIn wsX5_player wsX4_conkerToSend := goodIn_r _ [31, 16, 17, 22, 27, 40, 41, 42, 43, 44, 45, 46, 47, 48, 49, 50, 51, 52] (by decide +kernel) (by decide +kernel)
set_option maxRecDepth 20000 in
theorem gX5_player_X4_conkerToSend : GoodIn wsX5_player (wsV RX5 194 RX4 yX4_conkerToSend wsX4_conkerToSend) := goodIn_app (goodIn_of _ (by decide +kernel)) ggX5_player_X4_conkerToSend
theorem dX5_player_0 : decode cX5_player 0 = .ok (.iload_n 1, 1) := by decide +kernel
theorem dX5_player_1 : decode cX5_player 1 = .ok (.invokestatic 54, 3) := by decide +kernel
theorem dX5_player_4 : decode cX5_player 4 = .ok (.ifCond .ne 5, 3) := by decide +kernel
theorem dX5_player_7 : decode cX5_player 7 = .ok (.iconst (-1), 1) := by decide +kernel
theorem dX5_player_8 : decode cX5_player 8 = .ok (.ireturn, 1) := by decide +kernel
theorem dX5_player_9 : decode cX5_player 9 = .ok (.iload_n 2, 1) := by decide +kernel
theorem dX5_player_10 : decode cX5_player 10 = .ok (.tableswitch 110 0 6 #[42, 52, 62, 72, 82, 92, 101], 42) := by decide +kernel
theorem dX5_player_52 : decode cX5_player 52 = .ok (.aload_n 0, 1) := by decide +kernel
theorem dX5_player_53 : decode cX5_player 53 = .ok (.getfield 10, 3) := by decide +kernel
theorem dX5_player_56 : decode cX5_player 56 = .ok (.getfield 62, 3) := by decide +kernel
theorem dX5_player_59 : decode cX5_player 59 = .ok (.iload_n 1, 1) := by decide +kernel
theorem dX5_player_60 : decode cX5_player 60 = .ok (.iaload, 1) := by decide +kernel
theorem dX5_player_61 : decode cX5_player 61 = .ok (.ireturn, 1) := by decide +kernel
theorem dX5_player_62 : decode cX5_player 62 = .ok (.aload_n 0, 1) := by decide +kernel
theorem dX5_player_63 : decode cX5_player 63 = .ok (.getfield 10, 3) := by decide +kernel
theorem dX5_player_66 : decode cX5_player 66 = .ok (.getfield 188, 3) := by decide +kernel
theorem dX5_player_69 : decode cX5_player 69 = .ok (.iload_n 1, 1) := by decide +kernel
theorem dX5_player_70 : decode cX5_player 70 = .ok (.iaload, 1) := by decide +kernel
theorem dX5_player_71 : decode cX5_player 71 = .ok (.ireturn, 1) := by decide +kernel
theorem dX5_player_72 : decode cX5_player 72 = .ok (.aload_n 0, 1) := by decide +kernel
theorem dX5_player_73 : decode cX5_player 73 = .ok (.getfield 10, 3) := by decide +kernel
theorem dX5_player_76 : decode cX5_player 76 = .ok (.iconst 0, 1) := by decide +kernel
theorem dX5_player_77 : decode cX5_player 77 = .ok (.iload_n 1, 1) := by decide +kernel
theorem dX5_player_78 : decode cX5_player 78 = .ok (.invokevirtual 167, 3) := by decide +kernel
theorem dX5_player_81 : decode cX5_player 81 = .ok (.ireturn, 1) := by decide +kernel
theorem dX5_player_82 : decode cX5_player 82 = .ok (.aload_n 0, 1) := by decide +kernel
theorem dX5_player_83 : decode cX5_player 83 = .ok (.getfield 10, 3) := by decide +kernel
theorem dX5_player_86 : decode cX5_player 86 = .ok (.iconst 1, 1) := by decide +kernel
theorem dX5_player_87 : decode cX5_player 87 = .ok (.iload_n 1, 1) := by decide +kernel
theorem dX5_player_88 : decode cX5_player 88 = .ok (.invokevirtual 167, 3) := by decide +kernel
theorem dX5_player_91 : decode cX5_player 91 = .ok (.ireturn, 1) := by decide +kernel
theorem dX5_player_92 : decode cX5_player 92 = .ok (.aload_n 0, 1) := by decide +kernel
theorem dX5_player_93 : decode cX5_player 93 = .ok (.getfield 10, 3) := by decide +kernel
theorem dX5_player_96 : decode cX5_player 96 = .ok (.iconst 2, 1) := by decide +kernel
theorem dX5_player_97 : decode cX5_player 97 = .ok (.iload_n 1, 1) := by decide +kernel
theorem dX5_player_98 : decode cX5_player 98 = .ok (.invokevirtual 167, 3) := by decide +kernel
theorem dX5_player_101 : decode cX5_player 101 = .ok (.ireturn, 1) := by decide +kernel
theorem dX5_player_102 : decode cX5_player 102 = .ok (.aload_n 0, 1) := by decide +kernel
theorem dX5_player_103 : decode cX5_player 103 = .ok (.getfield 10, 3) := by decide +kernel
theorem dX5_player_106 : decode cX5_player 106 = .ok (.iload_n 1, 1) := by decide +kernel
theorem dX5_player_107 : decode cX5_player 107 = .ok (.invokevirtual 191, 3) := by decide +kernel
theorem dX5_player_110 : decode cX5_player 110 = .ok (.ireturn, 1) := by decide +kernel
theorem dX5_player_111 : decode cX5_player 111 = .ok (.aload_n 0, 1) := by decide +kernel
theorem dX5_player_112 : decode cX5_player 112 = .ok (.getfield 10, 3) := by decide +kernel
theorem dX5_player_115 : decode cX5_player 115 = .ok (.iload_n 1, 1) := by decide +kernel
theorem dX5_player_116 : decode cX5_player 116 = .ok (.invokevirtual 194, 3) := by decide +kernel
theorem dX5_player_119 : decode cX5_player 119 = .ok (.ireturn, 1) := by decide +kernel
theorem dX5_player_120 : decode cX5_player 120 = .ok (.bipush (-2), 2) := by decide +kernel
theorem dX5_player_122 : decode cX5_player 122 = .ok (.ireturn, 1) := by decide +kernel
set_option maxRecDepth 20000 in
theorem ggX5_ranked_X4_conkerAtRank : GoodIn wsX5_ranked wsX4_conkerAtRank := goodIn_r _ [6, 7, 8, 9, 10, 11, 5, 12, 13, 22, 23, 24, 25, 26, 27, 28, 29, 30, 31, 32, 33, 34] (by decide +kernel) (by decide +kernel)
set_option maxRecDepth 20000 in
theorem gX5_ranked_X4_conkerAtRank : GoodIn wsX5_ranked (wsV RX5 197 RX4 yX4_conkerAtRank wsX4_conkerAtRank) := goodIn_app (goodIn_of _ (by decide +kernel)) ggX5_ranked_X4_conkerAtRank
theorem dX5_ranked_0 : decode cX5_ranked 0 = .ok (.iload_n 1, 1) := by decide +kernel
theorem dX5_ranked_1 : decode cX5_ranked 1 = .ok (.ifCond .ge 6, 3) := by decide +kernel
theorem dX5_ranked_4 : decode cX5_ranked 4 = .ok (.bipush (-2), 2) := by decide +kernel
theorem dX5_ranked_6 : decode cX5_ranked 6 = .ok (.ireturn, 1) := by decide +kernel
theorem dX5_ranked_7 : decode cX5_ranked 7 = .ok (.aload_n 0, 1) := by decide +kernel
theorem dX5_ranked_8 : decode cX5_ranked 8 = .ok (.getfield 10, 3) := by decide +kernel
theorem dX5_ranked_11 : decode cX5_ranked 11 = .ok (.iload_n 1, 1) := by decide +kernel
theorem dX5_ranked_12 : decode cX5_ranked 12 = .ok (.invokevirtual 197, 3) := by decide +kernel
theorem dX5_ranked_15 : decode cX5_ranked 15 = .ok (.ireturn, 1) := by decide +kernel
set_option maxRecDepth 20000 in
theorem ggX5_line_X4_hasConker : GoodIn wsX5_line wsX4_hasConker := goodIn_r _ [6, 7, 8, 9, 10, 29, 30, 31, 32, 33, 34, 35, 36, 37, 38, 39, 40, 41] (by decide +kernel) (by decide +kernel)
set_option maxRecDepth 20000 in
theorem gX5_line_X4_hasConker : GoodIn wsX5_line (wsV RX5 98 RX4 yX4_hasConker wsX4_hasConker) := goodIn_app (goodIn_of _ (by decide +kernel)) ggX5_line_X4_hasConker
set_option maxRecDepth 20000 in
theorem ggX5_line_X4_lengthOfLine : GoodIn wsX5_line wsX4_lengthOfLine := goodIn_r _ [14, 7, 15, 16, 17, 5, 18, 19, 20, 3, 4, 6, 8, 9, 10, 29, 30, 31, 32, 33, 34, 35, 36, 37, 38, 39, 40, 41] (by decide +kernel) (by decide +kernel)
set_option maxRecDepth 20000 in
theorem gX5_line_X4_lengthOfLine : GoodIn wsX5_line (wsV RX5 200 RX4 yX4_lengthOfLine wsX4_lengthOfLine) := goodIn_app (goodIn_of _ (by decide +kernel)) ggX5_line_X4_lengthOfLine
theorem dX5_line_0 : decode cX5_line 0 = .ok (.aload_n 0, 1) := by decide +kernel
theorem dX5_line_1 : decode cX5_line 1 = .ok (.getfield 10, 3) := by decide +kernel
theorem dX5_line_4 : decode cX5_line 4 = .ok (.iload_n 1, 1) := by decide +kernel
theorem dX5_line_5 : decode cX5_line 5 = .ok (.invokevirtual 98, 3) := by decide +kernel
theorem dX5_line_8 : decode cX5_line 8 = .ok (.ifCond .ne 5, 3) := by decide +kernel
theorem dX5_line_11 : decode cX5_line 11 = .ok (.iconst (-1), 1) := by decide +kernel
theorem dX5_line_12 : decode cX5_line 12 = .ok (.ireturn, 1) := by decide +kernel
theorem dX5_line_13 : decode cX5_line 13 = .ok (.aload_n 0, 1) := by decide +kernel
theorem dX5_line_14 : decode cX5_line 14 = .ok (.getfield 10, 3) := by decide +kernel
theorem dX5_line_17 : decode cX5_line 17 = .ok (.iload_n 1, 1) := by decide +kernel
theorem dX5_line_18 : decode cX5_line 18 = .ok (.invokevirtual 200, 3) := by decide +kernel
theorem dX5_line_21 : decode cX5_line 21 = .ok (.ireturn, 1) := by decide +kernel
set_option maxRecDepth 20000 in
theorem ggX5_count_X4_conkersBeing : GoodIn wsX5_count wsX4_conkersBeing := goodIn_r _ [13, 14, 15, 16, 17, 18, 12, 19, 20, 52, 53, 54, 55, 56, 57, 58, 59, 60, 61, 62, 63, 64] (by decide +kernel) (by decide +kernel)
set_option maxRecDepth 20000 in
theorem gX5_count_X4_conkersBeing : GoodIn wsX5_count (wsV RX5 167 RX4 yX4_conkersBeing wsX4_conkersBeing) := goodIn_app (goodIn_of _ (by decide +kernel)) ggX5_count_X4_conkersBeing
set_option maxRecDepth 20000 in
theorem ggX5_count_X4_victoriesOf : GoodIn wsX5_count wsX4_victoriesOf := goodIn_r _ [24, 14, 25, 16, 17, 18, 12, 19, 20, 52, 53, 54, 55, 56, 57, 58, 59, 60, 61, 62, 63, 64] (by decide +kernel) (by decide +kernel)
set_option maxRecDepth 20000 in
theorem gX5_count_X4_victoriesOf : GoodIn wsX5_count (wsV RX5 191 RX4 yX4_victoriesOf wsX4_victoriesOf) := goodIn_app (goodIn_of _ (by decide +kernel)) ggX5_count_X4_victoriesOf
set_option maxRecDepth 20000 in
theorem ggX5_count_X4_conkersWithHeir : GoodIn wsX5_count wsX4_conkersWithHeir := goodIn_r _ [29, 14, 30, 31, 32, 12, 33, 34, 52, 53, 54, 55, 56, 57, 58, 59, 60, 61, 62, 63, 64] (by decide +kernel) (by decide +kernel)
set_option maxRecDepth 20000 in
theorem gX5_count_X4_conkersWithHeir : GoodIn wsX5_count (wsV RX5 209 RX4 yX4_conkersWithHeir wsX4_conkersWithHeir) := goodIn_app (goodIn_of _ (by decide +kernel)) ggX5_count_X4_conkersWithHeir
set_option maxRecDepth 20000 in
theorem ggX5_count_X4_boastsTold : GoodIn wsX5_count wsX4_boastsTold := goodIn_r _ [38, 14, 39, 52, 53, 54, 55, 56, 57, 58, 59, 60, 61, 62, 63, 64] (by decide +kernel) (by decide +kernel)
set_option maxRecDepth 20000 in
theorem gX5_count_X4_boastsTold : GoodIn wsX5_count (wsV RX5 212 RX4 yX4_boastsTold wsX4_boastsTold) := goodIn_app (goodIn_of _ (by decide +kernel)) ggX5_count_X4_boastsTold
set_option maxRecDepth 20000 in
theorem ggX5_count_X4_boastsTooHigh : GoodIn wsX5_count wsX4_boastsTooHigh := goodIn_r _ [43, 14, 39, 25, 52, 53, 54, 55, 56, 57, 58, 59, 60, 61, 62, 63, 64] (by decide +kernel) (by decide +kernel)
set_option maxRecDepth 20000 in
theorem gX5_count_X4_boastsTooHigh : GoodIn wsX5_count (wsV RX5 215 RX4 yX4_boastsTooHigh wsX4_boastsTooHigh) := goodIn_app (goodIn_of _ (by decide +kernel)) ggX5_count_X4_boastsTooHigh
theorem dX5_count_0 : decode cX5_count 0 = .ok (.iload_n 1, 1) := by decide +kernel
theorem dX5_count_1 : decode cX5_count 1 = .ok (.tableswitch 166 0 11 #[63, 71, 81, 91, 101, 110, 118, 126, 134, 142, 150, 158], 63) := by decide +kernel
theorem dX5_count_64 : decode cX5_count 64 = .ok (.aload_n 0, 1) := by decide +kernel
theorem dX5_count_65 : decode cX5_count 65 = .ok (.getfield 10, 3) := by decide +kernel
theorem dX5_count_68 : decode cX5_count 68 = .ok (.getfield 66, 3) := by decide +kernel
theorem dX5_count_71 : decode cX5_count 71 = .ok (.ireturn, 1) := by decide +kernel
theorem dX5_count_72 : decode cX5_count 72 = .ok (.aload_n 0, 1) := by decide +kernel
theorem dX5_count_73 : decode cX5_count 73 = .ok (.getfield 10, 3) := by decide +kernel
theorem dX5_count_76 : decode cX5_count 76 = .ok (.iconst 0, 1) := by decide +kernel
theorem dX5_count_77 : decode cX5_count 77 = .ok (.iconst (-1), 1) := by decide +kernel
theorem dX5_count_78 : decode cX5_count 78 = .ok (.invokevirtual 167, 3) := by decide +kernel
theorem dX5_count_81 : decode cX5_count 81 = .ok (.ireturn, 1) := by decide +kernel
theorem dX5_count_82 : decode cX5_count 82 = .ok (.aload_n 0, 1) := by decide +kernel
theorem dX5_count_83 : decode cX5_count 83 = .ok (.getfield 10, 3) := by decide +kernel
theorem dX5_count_86 : decode cX5_count 86 = .ok (.iconst 1, 1) := by decide +kernel
theorem dX5_count_87 : decode cX5_count 87 = .ok (.iconst (-1), 1) := by decide +kernel
theorem dX5_count_88 : decode cX5_count 88 = .ok (.invokevirtual 167, 3) := by decide +kernel
theorem dX5_count_91 : decode cX5_count 91 = .ok (.ireturn, 1) := by decide +kernel
theorem dX5_count_92 : decode cX5_count 92 = .ok (.aload_n 0, 1) := by decide +kernel
theorem dX5_count_93 : decode cX5_count 93 = .ok (.getfield 10, 3) := by decide +kernel
theorem dX5_count_96 : decode cX5_count 96 = .ok (.iconst 2, 1) := by decide +kernel
theorem dX5_count_97 : decode cX5_count 97 = .ok (.iconst (-1), 1) := by decide +kernel
theorem dX5_count_98 : decode cX5_count 98 = .ok (.invokevirtual 167, 3) := by decide +kernel
theorem dX5_count_101 : decode cX5_count 101 = .ok (.ireturn, 1) := by decide +kernel
theorem dX5_count_102 : decode cX5_count 102 = .ok (.aload_n 0, 1) := by decide +kernel
theorem dX5_count_103 : decode cX5_count 103 = .ok (.getfield 10, 3) := by decide +kernel
theorem dX5_count_106 : decode cX5_count 106 = .ok (.iconst (-1), 1) := by decide +kernel
theorem dX5_count_107 : decode cX5_count 107 = .ok (.invokevirtual 191, 3) := by decide +kernel
theorem dX5_count_110 : decode cX5_count 110 = .ok (.ireturn, 1) := by decide +kernel
theorem dX5_count_111 : decode cX5_count 111 = .ok (.aload_n 0, 1) := by decide +kernel
theorem dX5_count_112 : decode cX5_count 112 = .ok (.getfield 10, 3) := by decide +kernel
theorem dX5_count_115 : decode cX5_count 115 = .ok (.getfield 203, 3) := by decide +kernel
theorem dX5_count_118 : decode cX5_count 118 = .ok (.ireturn, 1) := by decide +kernel
theorem dX5_count_119 : decode cX5_count 119 = .ok (.aload_n 0, 1) := by decide +kernel
theorem dX5_count_120 : decode cX5_count 120 = .ok (.getfield 10, 3) := by decide +kernel
theorem dX5_count_123 : decode cX5_count 123 = .ok (.getfield 206, 3) := by decide +kernel
theorem dX5_count_126 : decode cX5_count 126 = .ok (.ireturn, 1) := by decide +kernel
theorem dX5_count_127 : decode cX5_count 127 = .ok (.aload_n 0, 1) := by decide +kernel
theorem dX5_count_128 : decode cX5_count 128 = .ok (.getfield 10, 3) := by decide +kernel
theorem dX5_count_131 : decode cX5_count 131 = .ok (.invokevirtual 209, 3) := by decide +kernel
theorem dX5_count_134 : decode cX5_count 134 = .ok (.ireturn, 1) := by decide +kernel
theorem dX5_count_135 : decode cX5_count 135 = .ok (.aload_n 0, 1) := by decide +kernel
theorem dX5_count_136 : decode cX5_count 136 = .ok (.getfield 10, 3) := by decide +kernel
theorem dX5_count_139 : decode cX5_count 139 = .ok (.invokevirtual 212, 3) := by decide +kernel
theorem dX5_count_142 : decode cX5_count 142 = .ok (.ireturn, 1) := by decide +kernel
theorem dX5_count_143 : decode cX5_count 143 = .ok (.aload_n 0, 1) := by decide +kernel
theorem dX5_count_144 : decode cX5_count 144 = .ok (.getfield 10, 3) := by decide +kernel
theorem dX5_count_147 : decode cX5_count 147 = .ok (.invokevirtual 215, 3) := by decide +kernel
theorem dX5_count_150 : decode cX5_count 150 = .ok (.ireturn, 1) := by decide +kernel
theorem dX5_count_151 : decode cX5_count 151 = .ok (.aload_n 0, 1) := by decide +kernel
theorem dX5_count_152 : decode cX5_count 152 = .ok (.getfield 25, 3) := by decide +kernel
theorem dX5_count_155 : decode cX5_count 155 = .ok (.getfield 218, 3) := by decide +kernel
theorem dX5_count_158 : decode cX5_count 158 = .ok (.ireturn, 1) := by decide +kernel
theorem dX5_count_159 : decode cX5_count 159 = .ok (.aload_n 0, 1) := by decide +kernel
theorem dX5_count_160 : decode cX5_count 160 = .ok (.getfield 32, 3) := by decide +kernel
theorem dX5_count_163 : decode cX5_count 163 = .ok (.getfield 138, 3) := by decide +kernel
theorem dX5_count_166 : decode cX5_count 166 = .ok (.ireturn, 1) := by decide +kernel
theorem dX5_count_167 : decode cX5_count 167 = .ok (.bipush (-2), 2) := by decide +kernel
theorem dX5_count_169 : decode cX5_count 169 = .ok (.ireturn, 1) := by decide +kernel
set_option maxRecDepth 20000 in
theorem ggX5_ifStruck_X4_strikeError : GoodIn wsX5_ifStruck wsX4_strikeError := goodIn_r _ [6, 7, 8, 9, 10, 11, 12, 5, 13, 14, 15, 16, 17, 18, 19, 20, 21, 22, 23, 24, 91, 92, 93, 94, 95, 96, 97, 98, 99, 100, 101, 102, 103] (by decide +kernel) (by decide +kernel)
set_option maxRecDepth 20000 in
theorem gX5_ifStruck_X4_strikeError : GoodIn wsX5_ifStruck (wsV RX5 78 RX4 yX4_strikeError wsX4_strikeError) := goodIn_app (goodIn_of _ (by decide +kernel)) ggX5_ifStruck_X4_strikeError
set_option maxRecDepth 20000 in
theorem ggX5_ifStruck_X5_tryHit : GoodIn wsX5_ifStruck wsX5_tryHit := goodIn_r _ [28, 29, 1, 30, 31, 32, 5, 33, 34, 35, 36, 37, 38, 39, 14, 40, 41, 42, 43, 44, 24, 45, 19, 46, 47, 48, 49, 50, 51, 52, 53, 54, 55, 56, 57, 58, 59, 60, 61, 62, 63, 64, 65, 66, 67, 68, 69, 70, 71, 72, 73, 74, 75, 76, 77, 78, 79, 80, 81, 82, 83, 84, 85, 86, 87, 88, 89, 90, 91, 92, 93, 94, 95, 96, 97, 98, 99, 100, 101, 102, 103] (by decide +kernel) (by decide +kernel)
set_option maxRecDepth 20000 in
theorem gX5_ifStruck_X5_tryHit : GoodIn wsX5_ifStruck (wsV RX5 221 RX5 yX5_tryHit wsX5_tryHit) := goodIn_app (goodIn_of _ (by decide +kernel)) ggX5_ifStruck_X5_tryHit
theorem dX5_ifStruck_0 : decode cX5_ifStruck 0 = .ok (.aload_n 0, 1) := by decide +kernel
theorem dX5_ifStruck_1 : decode cX5_ifStruck 1 = .ok (.getfield 10, 3) := by decide +kernel
theorem dX5_ifStruck_4 : decode cX5_ifStruck 4 = .ok (.iload_n 1, 1) := by decide +kernel
theorem dX5_ifStruck_5 : decode cX5_ifStruck 5 = .ok (.iload_n 2, 1) := by decide +kernel
theorem dX5_ifStruck_6 : decode cX5_ifStruck 6 = .ok (.iload_n 3, 1) := by decide +kernel
theorem dX5_ifStruck_7 : decode cX5_ifStruck 7 = .ok (.invokevirtual 78, 3) := by decide +kernel
theorem dX5_ifStruck_10 : decode cX5_ifStruck 10 = .ok (.istore 4, 2) := by decide +kernel
theorem dX5_ifStruck_12 : decode cX5_ifStruck 12 = .ok (.iload 4, 2) := by decide +kernel
theorem dX5_ifStruck_14 : decode cX5_ifStruck 14 = .ok (.ifCond .eq 6, 3) := by decide +kernel
theorem dX5_ifStruck_17 : decode cX5_ifStruck 17 = .ok (.iload 4, 2) := by decide +kernel
theorem dX5_ifStruck_19 : decode cX5_ifStruck 19 = .ok (.ireturn, 1) := by decide +kernel
theorem dX5_ifStruck_20 : decode cX5_ifStruck 20 = .ok (.aload_n 0, 1) := by decide +kernel
theorem dX5_ifStruck_21 : decode cX5_ifStruck 21 = .ok (.iload_n 1, 1) := by decide +kernel
theorem dX5_ifStruck_22 : decode cX5_ifStruck 22 = .ok (.iload_n 2, 1) := by decide +kernel
theorem dX5_ifStruck_23 : decode cX5_ifStruck 23 = .ok (.iload_n 3, 1) := by decide +kernel
theorem dX5_ifStruck_24 : decode cX5_ifStruck 24 = .ok (.invokevirtual 221, 3) := by decide +kernel
theorem dX5_ifStruck_27 : decode cX5_ifStruck 27 = .ok (.ireturn, 1) := by decide +kernel
set_option maxRecDepth 20000 in
theorem ggX5_leastSwing_X4_strikeError : GoodIn wsX5_leastSwing wsX4_strikeError := goodIn_r _ [6, 7, 8, 9, 10, 11, 12, 5, 13, 14, 15, 16, 17, 18, 19, 20, 21, 22, 23, 24, 91, 92, 93, 94, 95, 96, 97, 98, 99, 100, 101, 102, 103] (by decide +kernel) (by decide +kernel)
set_option maxRecDepth 20000 in
theorem gX5_leastSwing_X4_strikeError : GoodIn wsX5_leastSwing (wsV RX5 78 RX4 yX4_strikeError wsX4_strikeError) := goodIn_app (goodIn_of _ (by decide +kernel)) ggX5_leastSwing_X4_strikeError
set_option maxRecDepth 20000 in
theorem ggX5_leastSwing_X5_tryHit : GoodIn wsX5_leastSwing wsX5_tryHit := goodIn_r _ [28, 29, 1, 30, 31, 32, 5, 33, 34, 35, 36, 37, 38, 39, 14, 40, 41, 42, 43, 44, 24, 45, 19, 46, 47, 48, 49, 50, 51, 52, 53, 54, 55, 56, 57, 58, 59, 60, 61, 62, 63, 64, 65, 66, 67, 68, 69, 70, 71, 72, 73, 74, 75, 76, 77, 78, 79, 80, 81, 82, 83, 84, 85, 86, 87, 88, 89, 90, 91, 92, 93, 94, 95, 96, 97, 98, 99, 100, 101, 102, 103] (by decide +kernel) (by decide +kernel)
set_option maxRecDepth 20000 in
theorem gX5_leastSwing_X5_tryHit : GoodIn wsX5_leastSwing (wsV RX5 221 RX5 yX5_tryHit wsX5_tryHit) := goodIn_app (goodIn_of _ (by decide +kernel)) ggX5_leastSwing_X5_tryHit
theorem dX5_leastSwing_0 : decode cX5_leastSwing 0 = .ok (.aload_n 0, 1) := by decide +kernel
theorem dX5_leastSwing_1 : decode cX5_leastSwing 1 = .ok (.getfield 10, 3) := by decide +kernel
theorem dX5_leastSwing_4 : decode cX5_leastSwing 4 = .ok (.iload_n 1, 1) := by decide +kernel
theorem dX5_leastSwing_5 : decode cX5_leastSwing 5 = .ok (.iload_n 2, 1) := by decide +kernel
theorem dX5_leastSwing_6 : decode cX5_leastSwing 6 = .ok (.iconst 1, 1) := by decide +kernel
theorem dX5_leastSwing_7 : decode cX5_leastSwing 7 = .ok (.invokevirtual 78, 3) := by decide +kernel
theorem dX5_leastSwing_10 : decode cX5_leastSwing 10 = .ok (.istore_n 3, 1) := by decide +kernel
theorem dX5_leastSwing_11 : decode cX5_leastSwing 11 = .ok (.iload_n 3, 1) := by decide +kernel
theorem dX5_leastSwing_12 : decode cX5_leastSwing 12 = .ok (.ifCond .eq 5, 3) := by decide +kernel
theorem dX5_leastSwing_15 : decode cX5_leastSwing 15 = .ok (.iload_n 3, 1) := by decide +kernel
theorem dX5_leastSwing_16 : decode cX5_leastSwing 16 = .ok (.ireturn, 1) := by decide +kernel
theorem dX5_leastSwing_17 : decode cX5_leastSwing 17 = .ok (.iconst 1, 1) := by decide +kernel
theorem dX5_leastSwing_18 : decode cX5_leastSwing 18 = .ok (.istore 4, 2) := by decide +kernel
theorem dX5_leastSwing_20 : decode cX5_leastSwing 20 = .ok (.iload 4, 2) := by decide +kernel
theorem dX5_leastSwing_22 : decode cX5_leastSwing 22 = .ok (.bipush 9, 2) := by decide +kernel
theorem dX5_leastSwing_24 : decode cX5_leastSwing 24 = .ok (.if_icmp .gt 30, 3) := by decide +kernel
theorem dX5_leastSwing_27 : decode cX5_leastSwing 27 = .ok (.aload_n 0, 1) := by decide +kernel
theorem dX5_leastSwing_28 : decode cX5_leastSwing 28 = .ok (.iload_n 1, 1) := by decide +kernel
theorem dX5_leastSwing_29 : decode cX5_leastSwing 29 = .ok (.iload_n 2, 1) := by decide +kernel
theorem dX5_leastSwing_30 : decode cX5_leastSwing 30 = .ok (.iload 4, 2) := by decide +kernel
theorem dX5_leastSwing_32 : decode cX5_leastSwing 32 = .ok (.invokevirtual 221, 3) := by decide +kernel
theorem dX5_leastSwing_35 : decode cX5_leastSwing 35 = .ok (.iconst 3, 1) := by decide +kernel
theorem dX5_leastSwing_36 : decode cX5_leastSwing 36 = .ok (.iand, 1) := by decide +kernel
theorem dX5_leastSwing_37 : decode cX5_leastSwing 37 = .ok (.istore 5, 2) := by decide +kernel
theorem dX5_leastSwing_39 : decode cX5_leastSwing 39 = .ok (.iload 5, 2) := by decide +kernel
theorem dX5_leastSwing_41 : decode cX5_leastSwing 41 = .ok (.iconst 2, 1) := by decide +kernel
theorem dX5_leastSwing_42 : decode cX5_leastSwing 42 = .ok (.if_icmp .ne 6, 3) := by decide +kernel
theorem dX5_leastSwing_45 : decode cX5_leastSwing 45 = .ok (.iload 4, 2) := by decide +kernel
theorem dX5_leastSwing_47 : decode cX5_leastSwing 47 = .ok (.ireturn, 1) := by decide +kernel
theorem dX5_leastSwing_48 : decode cX5_leastSwing 48 = .ok (.iinc 4 1, 3) := by decide +kernel
theorem dX5_leastSwing_51 : decode cX5_leastSwing 51 = .ok (.goto (-31), 3) := by decide +kernel
theorem dX5_leastSwing_54 : decode cX5_leastSwing 54 = .ok (.bipush (-5), 2) := by decide +kernel
theorem dX5_leastSwing_56 : decode cX5_leastSwing 56 = .ok (.ireturn, 1) := by decide +kernel
set_option maxRecDepth 20000 in
theorem ggX5_winner_X4_boutError : GoodIn wsX5_winner wsX4_boutError := goodIn_r _ [9, 10, 11, 12, 13, 14, 15, 16, 8, 17, 18, 19, 20, 21, 22, 23, 24, 25, 26, 27, 28, 112, 113, 114, 115, 116, 117, 118, 119, 120, 121, 122, 123, 124] (by decide +kernel) (by decide +kernel)
set_option maxRecDepth 20000 in
theorem gX5_winner_X4_boutError : GoodIn wsX5_winner (wsV RX5 113 RX4 yX4_boutError wsX4_boutError) := goodIn_app (goodIn_of _ (by decide +kernel)) ggX5_winner_X4_boutError
set_option maxRecDepth 20000 in
theorem ggX5_winner_X4_copyFrom : GoodIn wsX5_winner wsX4_copyFrom := goodIn_r _ [32, 33, 34, 35, 36, 37, 38, 18, 39, 40, 41, 42, 43, 28, 44, 23, 45, 46, 112, 113, 114, 115, 116, 117, 118, 119, 120, 121, 122, 123, 124] (by decide +kernel) (by decide +kernel)
set_option maxRecDepth 20000 in
theorem gX5_winner_X4_copyFrom : GoodIn wsX5_winner (wsV RX5 164 RX4 yX4_copyFrom wsX4_copyFrom) := goodIn_app (goodIn_of _ (by decide +kernel)) ggX5_winner_X4_copyFrom
set_option maxRecDepth 20000 in
theorem ggX5_winner_X0_begin : GoodIn wsX5_winner wsX0_begin := goodIn_r _ [51, 52, 125] (by decide +kernel) (by decide +kernel)
set_option maxRecDepth 20000 in
theorem gX5_winner_X0_begin : GoodIn wsX5_winner (wsV RX5 116 RX0 yX0_begin wsX0_begin) := goodIn_app (goodIn_of _ (by decide +kernel)) ggX5_winner_X0_begin
set_option maxRecDepth 20000 in
theorem ggX5_winner_X4_fight : GoodIn wsX5_winner wsX4_fight := goodIn_r _ [56, 57, 58, 59, 60, 61, 62, 63, 24, 25, 26, 8, 27, 28, 64, 65, 66, 50, 67, 68, 69, 70, 71, 52, 72, 73, 74, 75, 76, 39, 46, 40, 41, 77, 78, 79, 80, 81, 82, 83, 84, 85, 86, 87, 45, 88, 89, 90, 91, 42, 43, 92, 93, 94, 95, 44, 96, 97, 98, 99, 100, 101, 102, 103, 112, 113, 114, 115, 116, 117, 118, 119, 120, 121, 122, 123, 124, 125] (by decide +kernel) (by decide +kernel)
set_option maxRecDepth 20000 in
theorem gX5_winner_X4_fight : GoodIn wsX5_winner (wsV RX5 120 RX4 yX4_fight wsX4_fight) := goodIn_app (goodIn_of _ (by decide +kernel)) ggX5_winner_X4_fight
theorem dX5_winner_0 : decode cX5_winner 0 = .ok (.aload_n 0, 1) := by decide +kernel
theorem dX5_winner_1 : decode cX5_winner 1 = .ok (.getfield 10, 3) := by decide +kernel
theorem dX5_winner_4 : decode cX5_winner 4 = .ok (.iload_n 1, 1) := by decide +kernel
theorem dX5_winner_5 : decode cX5_winner 5 = .ok (.iload_n 2, 1) := by decide +kernel
theorem dX5_winner_6 : decode cX5_winner 6 = .ok (.iload_n 3, 1) := by decide +kernel
theorem dX5_winner_7 : decode cX5_winner 7 = .ok (.invokevirtual 113, 3) := by decide +kernel
theorem dX5_winner_10 : decode cX5_winner 10 = .ok (.istore 4, 2) := by decide +kernel
theorem dX5_winner_12 : decode cX5_winner 12 = .ok (.iload 4, 2) := by decide +kernel
theorem dX5_winner_14 : decode cX5_winner 14 = .ok (.ifCond .eq 6, 3) := by decide +kernel
theorem dX5_winner_17 : decode cX5_winner 17 = .ok (.iload 4, 2) := by decide +kernel
theorem dX5_winner_19 : decode cX5_winner 19 = .ok (.ireturn, 1) := by decide +kernel
theorem dX5_winner_20 : decode cX5_winner 20 = .ok (.aload_n 0, 1) := by decide +kernel
theorem dX5_winner_21 : decode cX5_winner 21 = .ok (.getfield 19, 3) := by decide +kernel
theorem dX5_winner_24 : decode cX5_winner 24 = .ok (.aload_n 0, 1) := by decide +kernel
theorem dX5_winner_25 : decode cX5_winner 25 = .ok (.getfield 10, 3) := by decide +kernel
theorem dX5_winner_28 : decode cX5_winner 28 = .ok (.invokevirtual 164, 3) := by decide +kernel
theorem dX5_winner_31 : decode cX5_winner 31 = .ok (.aload_n 0, 1) := by decide +kernel
theorem dX5_winner_32 : decode cX5_winner 32 = .ok (.getfield 39, 3) := by decide +kernel
theorem dX5_winner_35 : decode cX5_winner 35 = .ok (.iload_n 3, 1) := by decide +kernel
theorem dX5_winner_36 : decode cX5_winner 36 = .ok (.invokevirtual 116, 3) := by decide +kernel
theorem dX5_winner_39 : decode cX5_winner 39 = .ok (.aload_n 0, 1) := by decide +kernel
theorem dX5_winner_40 : decode cX5_winner 40 = .ok (.getfield 19, 3) := by decide +kernel
theorem dX5_winner_43 : decode cX5_winner 43 = .ok (.iload_n 1, 1) := by decide +kernel
theorem dX5_winner_44 : decode cX5_winner 44 = .ok (.iload_n 2, 1) := by decide +kernel
theorem dX5_winner_45 : decode cX5_winner 45 = .ok (.aload_n 0, 1) := by decide +kernel
theorem dX5_winner_46 : decode cX5_winner 46 = .ok (.getfield 39, 3) := by decide +kernel
theorem dX5_winner_49 : decode cX5_winner 49 = .ok (.invokevirtual 120, 3) := by decide +kernel
theorem dX5_winner_52 : decode cX5_winner 52 = .ok (.pop, 1) := by decide +kernel
theorem dX5_winner_53 : decode cX5_winner 53 = .ok (.aload_n 0, 1) := by decide +kernel
theorem dX5_winner_54 : decode cX5_winner 54 = .ok (.getfield 19, 3) := by decide +kernel
theorem dX5_winner_57 : decode cX5_winner 57 = .ok (.getfield 101, 3) := by decide +kernel
theorem dX5_winner_60 : decode cX5_winner 60 = .ok (.iload_n 1, 1) := by decide +kernel
theorem dX5_winner_61 : decode cX5_winner 61 = .ok (.iaload, 1) := by decide +kernel
theorem dX5_winner_62 : decode cX5_winner 62 = .ok (.iconst 2, 1) := by decide +kernel
theorem dX5_winner_63 : decode cX5_winner 63 = .ok (.if_icmp .ne 7, 3) := by decide +kernel
theorem dX5_winner_66 : decode cX5_winner 66 = .ok (.iconst 1, 1) := by decide +kernel
theorem dX5_winner_67 : decode cX5_winner 67 = .ok (.goto 4, 3) := by decide +kernel
theorem dX5_winner_70 : decode cX5_winner 70 = .ok (.iconst 0, 1) := by decide +kernel
theorem dX5_winner_71 : decode cX5_winner 71 = .ok (.istore 5, 2) := by decide +kernel
theorem dX5_winner_73 : decode cX5_winner 73 = .ok (.aload_n 0, 1) := by decide +kernel
theorem dX5_winner_74 : decode cX5_winner 74 = .ok (.getfield 19, 3) := by decide +kernel
theorem dX5_winner_77 : decode cX5_winner 77 = .ok (.getfield 101, 3) := by decide +kernel
theorem dX5_winner_80 : decode cX5_winner 80 = .ok (.iload_n 2, 1) := by decide +kernel
theorem dX5_winner_81 : decode cX5_winner 81 = .ok (.iaload, 1) := by decide +kernel
theorem dX5_winner_82 : decode cX5_winner 82 = .ok (.iconst 2, 1) := by decide +kernel
theorem dX5_winner_83 : decode cX5_winner 83 = .ok (.if_icmp .ne 7, 3) := by decide +kernel
theorem dX5_winner_86 : decode cX5_winner 86 = .ok (.iconst 1, 1) := by decide +kernel
theorem dX5_winner_87 : decode cX5_winner 87 = .ok (.goto 4, 3) := by decide +kernel
theorem dX5_winner_90 : decode cX5_winner 90 = .ok (.iconst 0, 1) := by decide +kernel
theorem dX5_winner_91 : decode cX5_winner 91 = .ok (.istore 6, 2) := by decide +kernel
theorem dX5_winner_93 : decode cX5_winner 93 = .ok (.iload 5, 2) := by decide +kernel
theorem dX5_winner_95 : decode cX5_winner 95 = .ok (.iload 6, 2) := by decide +kernel
theorem dX5_winner_97 : decode cX5_winner 97 = .ok (.if_icmp .ne 6, 3) := by decide +kernel
theorem dX5_winner_100 : decode cX5_winner 100 = .ok (.bipush (-5), 2) := by decide +kernel
theorem dX5_winner_102 : decode cX5_winner 102 = .ok (.ireturn, 1) := by decide +kernel
theorem dX5_winner_103 : decode cX5_winner 103 = .ok (.iload 5, 2) := by decide +kernel
theorem dX5_winner_105 : decode cX5_winner 105 = .ok (.ifCond .eq 7, 3) := by decide +kernel
theorem dX5_winner_108 : decode cX5_winner 108 = .ok (.iload_n 2, 1) := by decide +kernel
theorem dX5_winner_109 : decode cX5_winner 109 = .ok (.goto 4, 3) := by decide +kernel
theorem dX5_winner_112 : decode cX5_winner 112 = .ok (.iload_n 1, 1) := by decide +kernel
theorem dX5_winner_113 : decode cX5_winner 113 = .ok (.ireturn, 1) := by decide +kernel
set_option maxRecDepth 20000 in
theorem ggX5_share_X4_victoriesOf : GoodIn wsX5_share wsX4_victoriesOf := goodIn_r _ [6, 7, 8, 9, 10, 11, 5, 12, 13, 29, 30, 31, 32, 33, 34, 35, 36, 37, 38, 39, 40, 41] (by decide +kernel) (by decide +kernel)
set_option maxRecDepth 20000 in
theorem gX5_share_X4_victoriesOf : GoodIn wsX5_share (wsV RX5 191 RX4 yX4_victoriesOf wsX4_victoriesOf) := goodIn_app (goodIn_of _ (by decide +kernel)) ggX5_share_X4_victoriesOf
set_option maxRecDepth 20000 in
theorem ggX5_share_X5_isPlayer : GoodIn wsX5_share wsX5_isPlayer := goodIn_r _ [17, 18, 19, 16, 20] (by decide +kernel) (by decide +kernel)
set_option maxRecDepth 20000 in
theorem gX5_share_X5_isPlayer : GoodIn wsX5_share (va_wsS RX5 54 yX5_isPlayer wsX5_isPlayer) := goodIn_app (goodIn_of _ (by decide +kernel)) ggX5_share_X5_isPlayer
theorem dX5_share_0 : decode cX5_share 0 = .ok (.aload_n 0, 1) := by decide +kernel
theorem dX5_share_1 : decode cX5_share 1 = .ok (.getfield 10, 3) := by decide +kernel
theorem dX5_share_4 : decode cX5_share 4 = .ok (.iconst (-1), 1) := by decide +kernel
theorem dX5_share_5 : decode cX5_share 5 = .ok (.invokevirtual 191, 3) := by decide +kernel
theorem dX5_share_8 : decode cX5_share 8 = .ok (.istore_n 2, 1) := by decide +kernel
theorem dX5_share_9 : decode cX5_share 9 = .ok (.iload_n 1, 1) := by decide +kernel
theorem dX5_share_10 : decode cX5_share 10 = .ok (.invokestatic 54, 3) := by decide +kernel
theorem dX5_share_13 : decode cX5_share 13 = .ok (.ifCond .eq 8, 3) := by decide +kernel
theorem dX5_share_16 : decode cX5_share 16 = .ok (.iload_n 2, 1) := by decide +kernel
theorem dX5_share_17 : decode cX5_share 17 = .ok (.iconst 1, 1) := by decide +kernel
theorem dX5_share_18 : decode cX5_share 18 = .ok (.if_icmp .ge 5, 3) := by decide +kernel
theorem dX5_share_21 : decode cX5_share 21 = .ok (.fconst 0, 1) := by decide +kernel
theorem dX5_share_22 : decode cX5_share 22 = .ok (.freturn, 1) := by decide +kernel
theorem dX5_share_23 : decode cX5_share 23 = .ok (.aload_n 0, 1) := by decide +kernel
theorem dX5_share_24 : decode cX5_share 24 = .ok (.getfield 10, 3) := by decide +kernel
theorem dX5_share_27 : decode cX5_share 27 = .ok (.iload_n 1, 1) := by decide +kernel
theorem dX5_share_28 : decode cX5_share 28 = .ok (.invokevirtual 191, 3) := by decide +kernel
theorem dX5_share_31 : decode cX5_share 31 = .ok (.i2f, 1) := by decide +kernel
theorem dX5_share_32 : decode cX5_share 32 = .ok (.iload_n 2, 1) := by decide +kernel
theorem dX5_share_33 : decode cX5_share 33 = .ok (.i2f, 1) := by decide +kernel
theorem dX5_share_34 : decode cX5_share 34 = .ok (.fdiv, 1) := by decide +kernel
theorem dX5_share_35 : decode cX5_share 35 = .ok (.freturn, 1) := by decide +kernel
theorem dX5_isWithin_0 : decode cX5_isWithin 0 = .ok (.iload_n 0, 1) := by decide +kernel
theorem dX5_isWithin_1 : decode cX5_isWithin 1 = .ok (.iload_n 1, 1) := by decide +kernel
theorem dX5_isWithin_2 : decode cX5_isWithin 2 = .ok (.if_icmp .lt 12, 3) := by decide +kernel
theorem dX5_isWithin_5 : decode cX5_isWithin 5 = .ok (.iload_n 0, 1) := by decide +kernel
theorem dX5_isWithin_6 : decode cX5_isWithin 6 = .ok (.iload_n 2, 1) := by decide +kernel
theorem dX5_isWithin_7 : decode cX5_isWithin 7 = .ok (.if_icmp .gt 7, 3) := by decide +kernel
theorem dX5_isWithin_10 : decode cX5_isWithin 10 = .ok (.iconst 1, 1) := by decide +kernel
theorem dX5_isWithin_11 : decode cX5_isWithin 11 = .ok (.goto 4, 3) := by decide +kernel
theorem dX5_isWithin_14 : decode cX5_isWithin 14 = .ok (.iconst 0, 1) := by decide +kernel
theorem dX5_isWithin_15 : decode cX5_isWithin 15 = .ok (.ireturn, 1) := by decide +kernel
set_option maxRecDepth 20000 in
theorem ggX5_isPlayer_X5_isWithin : GoodIn wsX5_isPlayer wsX5_isWithin := goodIn_r _ [4] (by decide +kernel) (by decide +kernel)
set_option maxRecDepth 20000 in
theorem gX5_isPlayer_X5_isWithin : GoodIn wsX5_isPlayer (va_wsS RX5 58 yX5_isWithin wsX5_isWithin) := goodIn_app (goodIn_of _ (by decide +kernel)) ggX5_isPlayer_X5_isWithin
theorem dX5_isPlayer_0 : decode cX5_isPlayer 0 = .ok (.iload_n 0, 1) := by decide +kernel
theorem dX5_isPlayer_1 : decode cX5_isPlayer 1 = .ok (.iconst 0, 1) := by decide +kernel
theorem dX5_isPlayer_2 : decode cX5_isPlayer 2 = .ok (.iconst 5, 1) := by decide +kernel
theorem dX5_isPlayer_3 : decode cX5_isPlayer 3 = .ok (.invokestatic 58, 3) := by decide +kernel
theorem dX5_isPlayer_6 : decode cX5_isPlayer 6 = .ok (.ireturn, 1) := by decide +kernel
set_option maxRecDepth 20000 in
theorem ggX5_tryHit_X4_copyFrom : GoodIn wsX5_tryHit wsX4_copyFrom := goodIn_r _ [7, 8, 9, 10, 11, 12, 13, 14, 15, 16, 17, 18, 19, 20, 21, 22, 23, 24, 68, 69, 70, 71, 72, 73, 74, 75, 76, 77, 78, 79, 80] (by decide +kernel) (by decide +kernel)
set_option maxRecDepth 20000 in
theorem gX5_tryHit_X4_copyFrom : GoodIn wsX5_tryHit (wsV RX5 164 RX4 yX4_copyFrom wsX4_copyFrom) := goodIn_app (goodIn_of _ (by decide +kernel)) ggX5_tryHit_X4_copyFrom
set_option maxRecDepth 20000 in
theorem ggX5_tryHit_X4_hit : GoodIn wsX5_tryHit wsX4_hit := goodIn_r _ [28, 15, 24, 16, 29, 30, 31, 32, 17, 33, 34, 6, 35, 36, 37, 38, 39, 40, 41, 42, 43, 23, 44, 45, 46, 47, 18, 19, 20, 48, 49, 50, 51, 21, 52, 53, 54, 55, 56, 57, 58, 59, 68, 69, 70, 71, 72, 73, 74, 75, 76, 77, 78, 79, 80] (by decide +kernel) (by decide +kernel)
set_option maxRecDepth 20000 in
theorem gX5_tryHit_X4_hit : GoodIn wsX5_tryHit (wsV RX5 82 RX4 yX4_hit wsX4_hit) := goodIn_app (goodIn_of _ (by decide +kernel)) ggX5_tryHit_X4_hit
theorem dX5_tryHit_0 : decode cX5_tryHit 0 = .ok (.aload_n 0, 1) := by decide +kernel
theorem dX5_tryHit_1 : decode cX5_tryHit 1 = .ok (.getfield 19, 3) := by decide +kernel
theorem dX5_tryHit_4 : decode cX5_tryHit 4 = .ok (.aload_n 0, 1) := by decide +kernel
theorem dX5_tryHit_5 : decode cX5_tryHit 5 = .ok (.getfield 10, 3) := by decide +kernel
theorem dX5_tryHit_8 : decode cX5_tryHit 8 = .ok (.invokevirtual 164, 3) := by decide +kernel
theorem dX5_tryHit_11 : decode cX5_tryHit 11 = .ok (.aload_n 0, 1) := by decide +kernel
theorem dX5_tryHit_12 : decode cX5_tryHit 12 = .ok (.getfield 19, 3) := by decide +kernel
theorem dX5_tryHit_15 : decode cX5_tryHit 15 = .ok (.iload_n 1, 1) := by decide +kernel
theorem dX5_tryHit_16 : decode cX5_tryHit 16 = .ok (.iload_n 2, 1) := by decide +kernel
theorem dX5_tryHit_17 : decode cX5_tryHit 17 = .ok (.iload_n 3, 1) := by decide +kernel
theorem dX5_tryHit_18 : decode cX5_tryHit 18 = .ok (.invokevirtual 82, 3) := by decide +kernel
theorem dX5_tryHit_21 : decode cX5_tryHit 21 = .ok (.ireturn, 1) := by decide +kernel
set_option maxRecDepth 20000 in
theorem ggX5_carryOutOrder_X4_mendError : GoodIn wsX5_carryOutOrder wsX4_mendError := goodIn_r _ [11, 12, 13, 14, 15, 16, 10, 17, 18, 19, 20, 21, 22, 23, 24, 25, 26, 103, 104, 105, 106, 107, 108, 109, 110, 111, 112, 113, 114, 115] (by decide +kernel) (by decide +kernel)
set_option maxRecDepth 20000 in
theorem gX5_carryOutOrder_X4_mendError : GoodIn wsX5_carryOutOrder (wsV RX5 85 RX4 yX4_mendError wsX4_mendError) := goodIn_app (goodIn_of _ (by decide +kernel)) ggX5_carryOutOrder_X4_mendError
set_option maxRecDepth 20000 in
theorem ggX5_carryOutOrder_X4_threadAgain : GoodIn wsX5_carryOutOrder wsX4_threadAgain := goodIn_r _ [30, 13, 12, 31, 18, 103, 104, 105, 106, 107, 108, 109, 110, 111, 112, 113, 114, 115] (by decide +kernel) (by decide +kernel)
set_option maxRecDepth 20000 in
theorem gX5_carryOutOrder_X4_threadAgain : GoodIn wsX5_carryOutOrder (wsV RX5 89 RX4 yX4_threadAgain wsX4_threadAgain) := goodIn_app (goodIn_of _ (by decide +kernel)) ggX5_carryOutOrder_X4_threadAgain
set_option maxRecDepth 20000 in
theorem ggX5_carryOutOrder_X4_fallenError : GoodIn wsX5_carryOutOrder wsX4_fallenError := goodIn_r _ [17, 18, 19, 20, 21, 10, 22, 23, 24, 25, 26, 103, 104, 105, 106, 107, 108, 109, 110, 111, 112, 113, 114, 115] (by decide +kernel) (by decide +kernel)
set_option maxRecDepth 20000 in
theorem gX5_carryOutOrder_X4_fallenError : GoodIn wsX5_carryOutOrder (wsV RX5 92 RX4 yX4_fallenError wsX4_fallenError) := goodIn_app (goodIn_of _ (by decide +kernel)) ggX5_carryOutOrder_X4_fallenError
set_option maxRecDepth 20000 in
theorem ggX5_carryOutOrder_X4_crush : GoodIn wsX5_carryOutOrder wsX4_crush := goodIn_r _ [36, 37, 38, 39, 40, 10, 41, 42, 43, 18, 103, 104, 105, 106, 107, 108, 109, 110, 111, 112, 113, 114, 115] (by decide +kernel) (by decide +kernel)
set_option maxRecDepth 20000 in
theorem gX5_carryOutOrder_X4_crush : GoodIn wsX5_carryOutOrder (wsV RX5 95 RX4 yX4_crush wsX4_crush) := goodIn_app (goodIn_of _ (by decide +kernel)) ggX5_carryOutOrder_X4_crush
set_option maxRecDepth 20000 in
theorem ggX5_carryOutOrder_X4_strikeError : GoodIn wsX5_carryOutOrder wsX4_strikeError := goodIn_r _ [47, 24, 25, 26, 48, 49, 50, 10, 51, 13, 19, 20, 21, 22, 23, 52, 53, 54, 55, 18, 103, 104, 105, 106, 107, 108, 109, 110, 111, 112, 113, 114, 115] (by decide +kernel) (by decide +kernel)
set_option maxRecDepth 20000 in
theorem gX5_carryOutOrder_X4_strikeError : GoodIn wsX5_carryOutOrder (wsV RX5 78 RX4 yX4_strikeError wsX4_strikeError) := goodIn_app (goodIn_of _ (by decide +kernel)) ggX5_carryOutOrder_X4_strikeError
set_option maxRecDepth 20000 in
theorem ggX5_carryOutOrder_X4_hit : GoodIn wsX5_carryOutOrder wsX4_hit := goodIn_r _ [59, 60, 61, 62, 63, 64, 65, 66, 31, 67, 68, 10, 69, 70, 71, 72, 73, 74, 34, 35, 36, 37, 38, 39, 40, 41, 42, 43, 18, 75, 76, 77, 78, 79, 80, 81, 82, 83, 84, 85, 86, 87, 103, 104, 105, 106, 107, 108, 109, 110, 111, 112, 113, 114, 115] (by decide +kernel) (by decide +kernel)
set_option maxRecDepth 20000 in
theorem gX5_carryOutOrder_X4_hit : GoodIn wsX5_carryOutOrder (wsV RX5 82 RX4 yX4_hit wsX4_hit) := goodIn_app (goodIn_of _ (by decide +kernel)) ggX5_carryOutOrder_X4_hit
theorem dX5_carryOutOrder_0 : decode cX5_carryOutOrder 0 = .ok (.aload_n 0, 1) := by decide +kernel
theorem dX5_carryOutOrder_1 : decode cX5_carryOutOrder 1 = .ok (.getfield 32, 3) := by decide +kernel
theorem dX5_carryOutOrder_4 : decode cX5_carryOutOrder 4 = .ok (.getfield 224, 3) := by decide +kernel
theorem dX5_carryOutOrder_7 : decode cX5_carryOutOrder 7 = .ok (.lookupswitch 101 #[(115, 63), (116, 25)], 25) := by decide +kernel
theorem dX5_carryOutOrder_32 : decode cX5_carryOutOrder 32 = .ok (.aload_n 0, 1) := by decide +kernel
theorem dX5_carryOutOrder_33 : decode cX5_carryOutOrder 33 = .ok (.getfield 10, 3) := by decide +kernel
theorem dX5_carryOutOrder_36 : decode cX5_carryOutOrder 36 = .ok (.aload_n 0, 1) := by decide +kernel
theorem dX5_carryOutOrder_37 : decode cX5_carryOutOrder 37 = .ok (.getfield 32, 3) := by decide +kernel
theorem dX5_carryOutOrder_40 : decode cX5_carryOutOrder 40 = .ok (.getfield 228, 3) := by decide +kernel
theorem dX5_carryOutOrder_43 : decode cX5_carryOutOrder 43 = .ok (.invokevirtual 85, 3) := by decide +kernel
theorem dX5_carryOutOrder_46 : decode cX5_carryOutOrder 46 = .ok (.istore_n 1, 1) := by decide +kernel
theorem dX5_carryOutOrder_47 : decode cX5_carryOutOrder 47 = .ok (.iload_n 1, 1) := by decide +kernel
theorem dX5_carryOutOrder_48 : decode cX5_carryOutOrder 48 = .ok (.ifCond .eq 7, 3) := by decide +kernel
theorem dX5_carryOutOrder_51 : decode cX5_carryOutOrder 51 = .ok (.iload_n 1, 1) := by decide +kernel
theorem dX5_carryOutOrder_52 : decode cX5_carryOutOrder 52 = .ok (.goto 17, 3) := by decide +kernel
theorem dX5_carryOutOrder_55 : decode cX5_carryOutOrder 55 = .ok (.aload_n 0, 1) := by decide +kernel
theorem dX5_carryOutOrder_56 : decode cX5_carryOutOrder 56 = .ok (.getfield 10, 3) := by decide +kernel
theorem dX5_carryOutOrder_59 : decode cX5_carryOutOrder 59 = .ok (.aload_n 0, 1) := by decide +kernel
theorem dX5_carryOutOrder_60 : decode cX5_carryOutOrder 60 = .ok (.getfield 32, 3) := by decide +kernel
theorem dX5_carryOutOrder_63 : decode cX5_carryOutOrder 63 = .ok (.getfield 228, 3) := by decide +kernel
theorem dX5_carryOutOrder_66 : decode cX5_carryOutOrder 66 = .ok (.invokevirtual 89, 3) := by decide +kernel
theorem dX5_carryOutOrder_69 : decode cX5_carryOutOrder 69 = .ok (.ireturn, 1) := by decide +kernel
theorem dX5_carryOutOrder_70 : decode cX5_carryOutOrder 70 = .ok (.aload_n 0, 1) := by decide +kernel
theorem dX5_carryOutOrder_71 : decode cX5_carryOutOrder 71 = .ok (.getfield 10, 3) := by decide +kernel
theorem dX5_carryOutOrder_74 : decode cX5_carryOutOrder 74 = .ok (.aload_n 0, 1) := by decide +kernel
theorem dX5_carryOutOrder_75 : decode cX5_carryOutOrder 75 = .ok (.getfield 32, 3) := by decide +kernel
theorem dX5_carryOutOrder_78 : decode cX5_carryOutOrder 78 = .ok (.getfield 228, 3) := by decide +kernel
theorem dX5_carryOutOrder_81 : decode cX5_carryOutOrder 81 = .ok (.invokevirtual 92, 3) := by decide +kernel
theorem dX5_carryOutOrder_84 : decode cX5_carryOutOrder 84 = .ok (.istore_n 1, 1) := by decide +kernel
theorem dX5_carryOutOrder_85 : decode cX5_carryOutOrder 85 = .ok (.iload_n 1, 1) := by decide +kernel
theorem dX5_carryOutOrder_86 : decode cX5_carryOutOrder 86 = .ok (.ifCond .eq 7, 3) := by decide +kernel
theorem dX5_carryOutOrder_89 : decode cX5_carryOutOrder 89 = .ok (.iload_n 1, 1) := by decide +kernel
theorem dX5_carryOutOrder_90 : decode cX5_carryOutOrder 90 = .ok (.goto 17, 3) := by decide +kernel
theorem dX5_carryOutOrder_93 : decode cX5_carryOutOrder 93 = .ok (.aload_n 0, 1) := by decide +kernel
theorem dX5_carryOutOrder_94 : decode cX5_carryOutOrder 94 = .ok (.getfield 10, 3) := by decide +kernel
end
section
theorem dX5_carryOutOrder_97 : decode cX5_carryOutOrder 97 = .ok (.aload_n 0, 1) := by decide +kernel
theorem dX5_carryOutOrder_98 : decode cX5_carryOutOrder 98 = .ok (.getfield 32, 3) := by decide +kernel
theorem dX5_carryOutOrder_101 : decode cX5_carryOutOrder 101 = .ok (.getfield 228, 3) := by decide +kernel
theorem dX5_carryOutOrder_104 : decode cX5_carryOutOrder 104 = .ok (.invokevirtual 95, 3) := by decide +kernel
theorem dX5_carryOutOrder_107 : decode cX5_carryOutOrder 107 = .ok (.ireturn, 1) := by decide +kernel
theorem dX5_carryOutOrder_108 : decode cX5_carryOutOrder 108 = .ok (.aload_n 0, 1) := by decide +kernel
theorem dX5_carryOutOrder_109 : decode cX5_carryOutOrder 109 = .ok (.getfield 10, 3) := by decide +kernel
theorem dX5_carryOutOrder_112 : decode cX5_carryOutOrder 112 = .ok (.aload_n 0, 1) := by decide +kernel
theorem dX5_carryOutOrder_113 : decode cX5_carryOutOrder 113 = .ok (.getfield 32, 3) := by decide +kernel
theorem dX5_carryOutOrder_116 : decode cX5_carryOutOrder 116 = .ok (.getfield 228, 3) := by decide +kernel
theorem dX5_carryOutOrder_119 : decode cX5_carryOutOrder 119 = .ok (.aload_n 0, 1) := by decide +kernel
theorem dX5_carryOutOrder_120 : decode cX5_carryOutOrder 120 = .ok (.getfield 32, 3) := by decide +kernel
theorem dX5_carryOutOrder_123 : decode cX5_carryOutOrder 123 = .ok (.getfield 231, 3) := by decide +kernel
theorem dX5_carryOutOrder_126 : decode cX5_carryOutOrder 126 = .ok (.aload_n 0, 1) := by decide +kernel
theorem dX5_carryOutOrder_127 : decode cX5_carryOutOrder 127 = .ok (.getfield 32, 3) := by decide +kernel
theorem dX5_carryOutOrder_130 : decode cX5_carryOutOrder 130 = .ok (.getfield 234, 3) := by decide +kernel
theorem dX5_carryOutOrder_133 : decode cX5_carryOutOrder 133 = .ok (.invokevirtual 78, 3) := by decide +kernel
theorem dX5_carryOutOrder_136 : decode cX5_carryOutOrder 136 = .ok (.istore_n 1, 1) := by decide +kernel
theorem dX5_carryOutOrder_137 : decode cX5_carryOutOrder 137 = .ok (.iload_n 1, 1) := by decide +kernel
theorem dX5_carryOutOrder_138 : decode cX5_carryOutOrder 138 = .ok (.ifCond .eq 7, 3) := by decide +kernel
theorem dX5_carryOutOrder_141 : decode cX5_carryOutOrder 141 = .ok (.iload_n 1, 1) := by decide +kernel
theorem dX5_carryOutOrder_142 : decode cX5_carryOutOrder 142 = .ok (.goto 31, 3) := by decide +kernel
theorem dX5_carryOutOrder_145 : decode cX5_carryOutOrder 145 = .ok (.aload_n 0, 1) := by decide +kernel
theorem dX5_carryOutOrder_146 : decode cX5_carryOutOrder 146 = .ok (.getfield 10, 3) := by decide +kernel
theorem dX5_carryOutOrder_149 : decode cX5_carryOutOrder 149 = .ok (.aload_n 0, 1) := by decide +kernel
theorem dX5_carryOutOrder_150 : decode cX5_carryOutOrder 150 = .ok (.getfield 32, 3) := by decide +kernel
theorem dX5_carryOutOrder_153 : decode cX5_carryOutOrder 153 = .ok (.getfield 228, 3) := by decide +kernel
theorem dX5_carryOutOrder_156 : decode cX5_carryOutOrder 156 = .ok (.aload_n 0, 1) := by decide +kernel
theorem dX5_carryOutOrder_157 : decode cX5_carryOutOrder 157 = .ok (.getfield 32, 3) := by decide +kernel
theorem dX5_carryOutOrder_160 : decode cX5_carryOutOrder 160 = .ok (.getfield 231, 3) := by decide +kernel
theorem dX5_carryOutOrder_163 : decode cX5_carryOutOrder 163 = .ok (.aload_n 0, 1) := by decide +kernel
theorem dX5_carryOutOrder_164 : decode cX5_carryOutOrder 164 = .ok (.getfield 32, 3) := by decide +kernel
theorem dX5_carryOutOrder_167 : decode cX5_carryOutOrder 167 = .ok (.getfield 234, 3) := by decide +kernel
theorem dX5_carryOutOrder_170 : decode cX5_carryOutOrder 170 = .ok (.invokevirtual 82, 3) := by decide +kernel
theorem dX5_carryOutOrder_173 : decode cX5_carryOutOrder 173 = .ok (.ireturn, 1) := by decide +kernel
theorem dX6_init_0 : decode cX6_init 0 = .ok (.aload_n 0, 1) := by decide +kernel
theorem dX6_init_1 : decode cX6_init 1 = .ok (.invokespecial 1, 3) := by decide +kernel
theorem dX6_init_4 : decode cX6_init 4 = .ok (.aload_n 0, 1) := by decide +kernel
theorem dX6_init_5 : decode cX6_init 5 = .ok (.sipush 2048, 3) := by decide +kernel
theorem dX6_init_8 : decode cX6_init 8 = .ok (.newarray .int, 2) := by decide +kernel
theorem dX6_init_10 : decode cX6_init 10 = .ok (.putfield 7, 3) := by decide +kernel
theorem dX6_init_13 : decode cX6_init 13 = .ok (.aload_n 0, 1) := by decide +kernel
theorem dX6_init_14 : decode cX6_init 14 = .ok (.bipush 60, 2) := by decide +kernel
theorem dX6_init_16 : decode cX6_init 16 = .ok (.newarray .int, 2) := by decide +kernel
theorem dX6_init_18 : decode cX6_init 18 = .ok (.putfield 13, 3) := by decide +kernel
theorem dX6_init_21 : decode cX6_init 21 = .ok (.aload_n 0, 1) := by decide +kernel
theorem dX6_init_22 : decode cX6_init 22 = .ok (.bipush 6, 2) := by decide +kernel
theorem dX6_init_24 : decode cX6_init 24 = .ok (.newarray .int, 2) := by decide +kernel
theorem dX6_init_26 : decode cX6_init 26 = .ok (.putfield 16, 3) := by decide +kernel
theorem dX6_init_29 : decode cX6_init 29 = .ok (.aload_n 0, 1) := by decide +kernel
theorem dX6_init_30 : decode cX6_init 30 = .ok (.bipush 6, 2) := by decide +kernel
theorem dX6_init_32 : decode cX6_init 32 = .ok (.newarray .int, 2) := by decide +kernel
theorem dX6_init_34 : decode cX6_init 34 = .ok (.putfield 19, 3) := by decide +kernel
theorem dX6_init_37 : decode cX6_init 37 = .ok (.iconst 0, 1) := by decide +kernel
theorem dX6_init_38 : decode cX6_init 38 = .ok (.istore_n 1, 1) := by decide +kernel
theorem dX6_init_39 : decode cX6_init 39 = .ok (.iload_n 1, 1) := by decide +kernel
theorem dX6_init_40 : decode cX6_init 40 = .ok (.bipush 6, 2) := by decide +kernel
theorem dX6_init_42 : decode cX6_init 42 = .ok (.if_icmp .ge 20, 3) := by decide +kernel
theorem dX6_init_45 : decode cX6_init 45 = .ok (.aload_n 0, 1) := by decide +kernel
theorem dX6_init_46 : decode cX6_init 46 = .ok (.getfield 7, 3) := by decide +kernel
theorem dX6_init_49 : decode cX6_init 49 = .ok (.iconst 4, 1) := by decide +kernel
theorem dX6_init_50 : decode cX6_init 50 = .ok (.iconst 2, 1) := by decide +kernel
theorem dX6_init_51 : decode cX6_init 51 = .ok (.iload_n 1, 1) := by decide +kernel
theorem dX6_init_52 : decode cX6_init 52 = .ok (.imul, 1) := by decide +kernel
theorem dX6_init_53 : decode cX6_init 53 = .ok (.iadd, 1) := by decide +kernel
theorem dX6_init_54 : decode cX6_init 54 = .ok (.iconst 3, 1) := by decide +kernel
theorem dX6_init_55 : decode cX6_init 55 = .ok (.iastore, 1) := by decide +kernel
theorem dX6_init_56 : decode cX6_init 56 = .ok (.iinc 1 1, 3) := by decide +kernel
theorem dX6_init_59 : decode cX6_init 59 = .ok (.goto (-20), 3) := by decide +kernel
theorem dX6_init_62 : decode cX6_init 62 = .ok (.return_, 1) := by decide +kernel
theorem dX6_in_0 : decode cX6_in 0 = .ok (.iload_n 0, 1) := by decide +kernel
theorem dX6_in_1 : decode cX6_in 1 = .ok (.iload_n 1, 1) := by decide +kernel
theorem dX6_in_2 : decode cX6_in 2 = .ok (.if_icmp .lt 12, 3) := by decide +kernel
theorem dX6_in_5 : decode cX6_in 5 = .ok (.iload_n 0, 1) := by decide +kernel
theorem dX6_in_6 : decode cX6_in 6 = .ok (.iload_n 2, 1) := by decide +kernel
theorem dX6_in_7 : decode cX6_in 7 = .ok (.if_icmp .gt 7, 3) := by decide +kernel
theorem dX6_in_10 : decode cX6_in 10 = .ok (.iconst 1, 1) := by decide +kernel
theorem dX6_in_11 : decode cX6_in 11 = .ok (.goto 4, 3) := by decide +kernel
theorem dX6_in_14 : decode cX6_in 14 = .ok (.iconst 0, 1) := by decide +kernel
theorem dX6_in_15 : decode cX6_in 15 = .ok (.ireturn, 1) := by decide +kernel
theorem dX6_flag_0 : decode cX6_flag 0 = .ok (.iload_n 0, 1) := by decide +kernel
theorem dX6_flag_1 : decode cX6_flag 1 = .ok (.ifCond .eq 7, 3) := by decide +kernel
theorem dX6_flag_4 : decode cX6_flag 4 = .ok (.iconst 1, 1) := by decide +kernel
theorem dX6_flag_5 : decode cX6_flag 5 = .ok (.goto 4, 3) := by decide +kernel
theorem dX6_flag_8 : decode cX6_flag 8 = .ok (.iconst 0, 1) := by decide +kernel
theorem dX6_flag_9 : decode cX6_flag 9 = .ok (.ireturn, 1) := by decide +kernel
theorem dX6_less_0 : decode cX6_less 0 = .ok (.iload_n 0, 1) := by decide +kernel
theorem dX6_less_1 : decode cX6_less 1 = .ok (.iload_n 1, 1) := by decide +kernel
theorem dX6_less_2 : decode cX6_less 2 = .ok (.if_icmp .ge 7, 3) := by decide +kernel
theorem dX6_less_5 : decode cX6_less 5 = .ok (.iload_n 0, 1) := by decide +kernel
theorem dX6_less_6 : decode cX6_less 6 = .ok (.goto 4, 3) := by decide +kernel
theorem dX6_less_9 : decode cX6_less 9 = .ok (.iload_n 1, 1) := by decide +kernel
theorem dX6_less_10 : decode cX6_less 10 = .ok (.ireturn, 1) := by decide +kernel
theorem dX6_copies_0 : decode cX6_copies 0 = .ok (.iconst 0, 1) := by decide +kernel
theorem dX6_copies_1 : decode cX6_copies 1 = .ok (.istore_n 3, 1) := by decide +kernel
theorem dX6_copies_2 : decode cX6_copies 2 = .ok (.iload_n 3, 1) := by decide +kernel
theorem dX6_copies_3 : decode cX6_copies 3 = .ok (.sipush 256, 3) := by decide +kernel
theorem dX6_copies_6 : decode cX6_copies 6 = .ok (.if_icmp .ge 33, 3) := by decide +kernel
theorem dX6_copies_9 : decode cX6_copies 9 = .ok (.aload_n 0, 1) := by decide +kernel
theorem dX6_copies_10 : decode cX6_copies 10 = .ok (.getfield 7, 3) := by decide +kernel
theorem dX6_copies_13 : decode cX6_copies 13 = .ok (.sipush 256, 3) := by decide +kernel
theorem dX6_copies_16 : decode cX6_copies 16 = .ok (.iload_n 2, 1) := by decide +kernel
theorem dX6_copies_17 : decode cX6_copies 17 = .ok (.imul, 1) := by decide +kernel
theorem dX6_copies_18 : decode cX6_copies 18 = .ok (.iload_n 3, 1) := by decide +kernel
theorem dX6_copies_19 : decode cX6_copies 19 = .ok (.iadd, 1) := by decide +kernel
theorem dX6_copies_20 : decode cX6_copies 20 = .ok (.aload_n 0, 1) := by decide +kernel
theorem dX6_copies_21 : decode cX6_copies 21 = .ok (.getfield 7, 3) := by decide +kernel
theorem dX6_copies_24 : decode cX6_copies 24 = .ok (.sipush 256, 3) := by decide +kernel
theorem dX6_copies_27 : decode cX6_copies 27 = .ok (.iload_n 1, 1) := by decide +kernel
theorem dX6_copies_28 : decode cX6_copies 28 = .ok (.imul, 1) := by decide +kernel
theorem dX6_copies_29 : decode cX6_copies 29 = .ok (.iload_n 3, 1) := by decide +kernel
theorem dX6_copies_30 : decode cX6_copies 30 = .ok (.iadd, 1) := by decide +kernel
theorem dX6_copies_31 : decode cX6_copies 31 = .ok (.iaload, 1) := by decide +kernel
theorem dX6_copies_32 : decode cX6_copies 32 = .ok (.iastore, 1) := by decide +kernel
theorem dX6_copies_33 : decode cX6_copies 33 = .ok (.iinc 3 1, 3) := by decide +kernel
theorem dX6_copies_36 : decode cX6_copies 36 = .ok (.goto (-34), 3) := by decide +kernel
theorem dX6_copies_39 : decode cX6_copies 39 = .ok (.return_, 1) := by decide +kernel
set_option maxRecDepth 20000 in
theorem ggX6_records_X6_copies : GoodIn wsX6_records wsX6_copies := goodIn_r _ [6, 7, 8, 9, 10, 11, 12, 13, 14, 15, 16, 17, 18, 19, 20] (by decide +kernel) (by decide +kernel)
set_option maxRecDepth 20000 in
theorem gX6_records_X6_copies : GoodIn wsX6_records (wsV RX6 26 RX6 yX6_copies wsX6_copies) := goodIn_app (goodIn_of _ (by decide +kernel)) ggX6_records_X6_copies
theorem dX6_records_0 : decode cX6_records 0 = .ok (.aload_n 0, 1) := by decide +kernel
theorem dX6_records_1 : decode cX6_records 1 = .ok (.getfield 22, 3) := by decide +kernel
theorem dX6_records_4 : decode cX6_records 4 = .ok (.iconst 5, 1) := by decide +kernel
theorem dX6_records_5 : decode cX6_records 5 = .ok (.if_icmp .ne 34, 3) := by decide +kernel
theorem dX6_records_8 : decode cX6_records 8 = .ok (.iconst 1, 1) := by decide +kernel
theorem dX6_records_9 : decode cX6_records 9 = .ok (.istore_n 1, 1) := by decide +kernel
theorem dX6_records_10 : decode cX6_records 10 = .ok (.iload_n 1, 1) := by decide +kernel
theorem dX6_records_11 : decode cX6_records 11 = .ok (.iconst 5, 1) := by decide +kernel
theorem dX6_records_12 : decode cX6_records 12 = .ok (.if_icmp .ge 17, 3) := by decide +kernel
theorem dX6_records_15 : decode cX6_records 15 = .ok (.aload_n 0, 1) := by decide +kernel
theorem dX6_records_16 : decode cX6_records 16 = .ok (.iload_n 1, 1) := by decide +kernel
theorem dX6_records_17 : decode cX6_records 17 = .ok (.iconst 1, 1) := by decide +kernel
theorem dX6_records_18 : decode cX6_records 18 = .ok (.iadd, 1) := by decide +kernel
theorem dX6_records_19 : decode cX6_records 19 = .ok (.iload_n 1, 1) := by decide +kernel
theorem dX6_records_20 : decode cX6_records 20 = .ok (.invokevirtual 26, 3) := by decide +kernel
theorem dX6_records_23 : decode cX6_records 23 = .ok (.iinc 1 1, 3) := by decide +kernel
theorem dX6_records_26 : decode cX6_records 26 = .ok (.goto (-16), 3) := by decide +kernel
theorem dX6_records_29 : decode cX6_records 29 = .ok (.aload_n 0, 1) := by decide +kernel
theorem dX6_records_30 : decode cX6_records 30 = .ok (.dup, 1) := by decide +kernel
theorem dX6_records_31 : decode cX6_records 31 = .ok (.getfield 22, 3) := by decide +kernel
theorem dX6_records_34 : decode cX6_records 34 = .ok (.iconst 1, 1) := by decide +kernel
theorem dX6_records_35 : decode cX6_records 35 = .ok (.isub, 1) := by decide +kernel
theorem dX6_records_36 : decode cX6_records 36 = .ok (.putfield 22, 3) := by decide +kernel
theorem dX6_records_39 : decode cX6_records 39 = .ok (.aload_n 0, 1) := by decide +kernel
theorem dX6_records_40 : decode cX6_records 40 = .ok (.dup, 1) := by decide +kernel
theorem dX6_records_41 : decode cX6_records 41 = .ok (.getfield 22, 3) := by decide +kernel
theorem dX6_records_44 : decode cX6_records 44 = .ok (.iconst 1, 1) := by decide +kernel
theorem dX6_records_45 : decode cX6_records 45 = .ok (.iadd, 1) := by decide +kernel
theorem dX6_records_46 : decode cX6_records 46 = .ok (.putfield 22, 3) := by decide +kernel
theorem dX6_records_49 : decode cX6_records 49 = .ok (.aload_n 0, 1) := by decide +kernel
theorem dX6_records_50 : decode cX6_records 50 = .ok (.iconst 0, 1) := by decide +kernel
theorem dX6_records_51 : decode cX6_records 51 = .ok (.aload_n 0, 1) := by decide +kernel
theorem dX6_records_52 : decode cX6_records 52 = .ok (.getfield 22, 3) := by decide +kernel
theorem dX6_records_55 : decode cX6_records 55 = .ok (.invokevirtual 26, 3) := by decide +kernel
theorem dX6_records_58 : decode cX6_records 58 = .ok (.return_, 1) := by decide +kernel
theorem dX6_at_0 : decode cX6_at 0 = .ok (.iload_n 0, 1) := by decide +kernel
theorem dX6_at_1 : decode cX6_at 1 = .ok (.bipush 16, 2) := by decide +kernel
theorem dX6_at_3 : decode cX6_at 3 = .ok (.iadd, 1) := by decide +kernel
theorem dX6_at_4 : decode cX6_at 4 = .ok (.bipush 8, 2) := by decide +kernel
theorem dX6_at_6 : decode cX6_at 6 = .ok (.iload_n 1, 1) := by decide +kernel
theorem dX6_at_7 : decode cX6_at 7 = .ok (.imul, 1) := by decide +kernel
theorem dX6_at_8 : decode cX6_at 8 = .ok (.iadd, 1) := by decide +kernel
theorem dX6_at_9 : decode cX6_at 9 = .ok (.ireturn, 1) := by decide +kernel
theorem dX6_smashes_0 : decode cX6_smashes 0 = .ok (.aload_n 0, 1) := by decide +kernel
theorem dX6_smashes_1 : decode cX6_smashes 1 = .ok (.getfield 7, 3) := by decide +kernel
theorem dX6_smashes_4 : decode cX6_smashes 4 = .ok (.iload_n 1, 1) := by decide +kernel
theorem dX6_smashes_5 : decode cX6_smashes 5 = .ok (.bipush 6, 2) := by decide +kernel
theorem dX6_smashes_7 : decode cX6_smashes 7 = .ok (.iadd, 1) := by decide +kernel
theorem dX6_smashes_8 : decode cX6_smashes 8 = .ok (.iconst 2, 1) := by decide +kernel
theorem dX6_smashes_9 : decode cX6_smashes 9 = .ok (.iastore, 1) := by decide +kernel
theorem dX6_smashes_10 : decode cX6_smashes 10 = .ok (.aload_n 0, 1) := by decide +kernel
theorem dX6_smashes_11 : decode cX6_smashes 11 = .ok (.getfield 7, 3) := by decide +kernel
theorem dX6_smashes_14 : decode cX6_smashes 14 = .ok (.iload_n 1, 1) := by decide +kernel
theorem dX6_smashes_15 : decode cX6_smashes 15 = .ok (.iconst 4, 1) := by decide +kernel
theorem dX6_smashes_16 : decode cX6_smashes 16 = .ok (.iadd, 1) := by decide +kernel
theorem dX6_smashes_17 : decode cX6_smashes 17 = .ok (.iconst 0, 1) := by decide +kernel
theorem dX6_smashes_18 : decode cX6_smashes 18 = .ok (.iastore, 1) := by decide +kernel
theorem dX6_smashes_19 : decode cX6_smashes 19 = .ok (.aload_n 0, 1) := by decide +kernel
theorem dX6_smashes_20 : decode cX6_smashes 20 = .ok (.getfield 7, 3) := by decide +kernel
theorem dX6_smashes_23 : decode cX6_smashes 23 = .ok (.iload_n 1, 1) := by decide +kernel
theorem dX6_smashes_24 : decode cX6_smashes 24 = .ok (.iconst 5, 1) := by decide +kernel
theorem dX6_smashes_25 : decode cX6_smashes 25 = .ok (.iadd, 1) := by decide +kernel
theorem dX6_smashes_26 : decode cX6_smashes 26 = .ok (.bipush (-5), 2) := by decide +kernel
theorem dX6_smashes_28 : decode cX6_smashes 28 = .ok (.iastore, 1) := by decide +kernel
theorem dX6_smashes_29 : decode cX6_smashes 29 = .ok (.aload_n 0, 1) := by decide +kernel
theorem dX6_smashes_30 : decode cX6_smashes 30 = .ok (.getfield 7, 3) := by decide +kernel
theorem dX6_smashes_33 : decode cX6_smashes 33 = .ok (.iload_n 1, 1) := by decide +kernel
theorem dX6_smashes_34 : decode cX6_smashes 34 = .ok (.bipush 7, 2) := by decide +kernel
theorem dX6_smashes_36 : decode cX6_smashes 36 = .ok (.iadd, 1) := by decide +kernel
theorem dX6_smashes_37 : decode cX6_smashes 37 = .ok (.iload_n 2, 1) := by decide +kernel
theorem dX6_smashes_38 : decode cX6_smashes 38 = .ok (.iastore, 1) := by decide +kernel
theorem dX6_smashes_39 : decode cX6_smashes 39 = .ok (.return_, 1) := by decide +kernel
set_option maxRecDepth 20000 in
theorem ggX6_strikes_X6_at : GoodIn wsX6_strikes wsX6_at := goodIn_r _ [5] (by decide +kernel) (by decide +kernel)
set_option maxRecDepth 20000 in
theorem gX6_strikes_X6_at : GoodIn wsX6_strikes (va_wsS RX6 30 yX6_at wsX6_at) := goodIn_app (goodIn_of _ (by decide +kernel)) ggX6_strikes_X6_at
set_option maxRecDepth 20000 in
theorem ggX6_strikes_X6_less : GoodIn wsX6_strikes wsX6_less := goodIn_r _ [8] (by decide +kernel) (by decide +kernel)
set_option maxRecDepth 20000 in
theorem gX6_strikes_X6_less : GoodIn wsX6_strikes (va_wsS RX6 34 yX6_less wsX6_less) := goodIn_app (goodIn_of _ (by decide +kernel)) ggX6_strikes_X6_less
set_option maxRecDepth 20000 in
theorem ggX6_strikes_X6_smashes : GoodIn wsX6_strikes wsX6_smashes := goodIn_r _ [12, 1, 16, 17, 18, 19, 20, 21, 22, 23, 24, 25, 26, 27, 28] (by decide +kernel) (by decide +kernel)
set_option maxRecDepth 20000 in
theorem gX6_strikes_X6_smashes : GoodIn wsX6_strikes (wsV RX6 37 RX6 yX6_smashes wsX6_smashes) := goodIn_app (goodIn_of _ (by decide +kernel)) ggX6_strikes_X6_smashes
set_option maxRecDepth 20000 in
theorem ggX6_strikes_X6_flag : GoodIn wsX6_strikes wsX6_flag := goodIn_r _ [15] (by decide +kernel) (by decide +kernel)
set_option maxRecDepth 20000 in
theorem gX6_strikes_X6_flag : GoodIn wsX6_strikes (va_wsS RX6 40 yX6_flag wsX6_flag) := goodIn_app (goodIn_of _ (by decide +kernel)) ggX6_strikes_X6_flag
theorem dX6_strikes_0 : decode cX6_strikes 0 = .ok (.iload_n 1, 1) := by decide +kernel
theorem dX6_strikes_1 : decode cX6_strikes 1 = .ok (.iload_n 2, 1) := by decide +kernel
theorem dX6_strikes_2 : decode cX6_strikes 2 = .ok (.invokestatic 30, 3) := by decide +kernel
theorem dX6_strikes_5 : decode cX6_strikes 5 = .ok (.istore 5, 2) := by decide +kernel
theorem dX6_strikes_7 : decode cX6_strikes 7 = .ok (.iload_n 1, 1) := by decide +kernel
theorem dX6_strikes_8 : decode cX6_strikes 8 = .ok (.iload_n 3, 1) := by decide +kernel
theorem dX6_strikes_9 : decode cX6_strikes 9 = .ok (.invokestatic 30, 3) := by decide +kernel
theorem dX6_strikes_12 : decode cX6_strikes 12 = .ok (.istore 6, 2) := by decide +kernel
theorem dX6_strikes_14 : decode cX6_strikes 14 = .ok (.aload_n 0, 1) := by decide +kernel
theorem dX6_strikes_15 : decode cX6_strikes 15 = .ok (.getfield 7, 3) := by decide +kernel
theorem dX6_strikes_18 : decode cX6_strikes 18 = .ok (.iload 6, 2) := by decide +kernel
theorem dX6_strikes_20 : decode cX6_strikes 20 = .ok (.iconst 2, 1) := by decide +kernel
theorem dX6_strikes_21 : decode cX6_strikes 21 = .ok (.iadd, 1) := by decide +kernel
theorem dX6_strikes_22 : decode cX6_strikes 22 = .ok (.aload_n 0, 1) := by decide +kernel
theorem dX6_strikes_23 : decode cX6_strikes 23 = .ok (.getfield 7, 3) := by decide +kernel
theorem dX6_strikes_26 : decode cX6_strikes 26 = .ok (.iload 6, 2) := by decide +kernel
theorem dX6_strikes_28 : decode cX6_strikes 28 = .ok (.iconst 2, 1) := by decide +kernel
theorem dX6_strikes_29 : decode cX6_strikes 29 = .ok (.iadd, 1) := by decide +kernel
theorem dX6_strikes_30 : decode cX6_strikes 30 = .ok (.iaload, 1) := by decide +kernel
theorem dX6_strikes_31 : decode cX6_strikes 31 = .ok (.iload 4, 2) := by decide +kernel
theorem dX6_strikes_33 : decode cX6_strikes 33 = .ok (.aload_n 0, 1) := by decide +kernel
theorem dX6_strikes_34 : decode cX6_strikes 34 = .ok (.getfield 7, 3) := by decide +kernel
theorem dX6_strikes_37 : decode cX6_strikes 37 = .ok (.iload 5, 2) := by decide +kernel
theorem dX6_strikes_39 : decode cX6_strikes 39 = .ok (.iconst 1, 1) := by decide +kernel
theorem dX6_strikes_40 : decode cX6_strikes 40 = .ok (.iadd, 1) := by decide +kernel
theorem dX6_strikes_41 : decode cX6_strikes 41 = .ok (.iaload, 1) := by decide +kernel
theorem dX6_strikes_42 : decode cX6_strikes 42 = .ok (.imul, 1) := by decide +kernel
theorem dX6_strikes_43 : decode cX6_strikes 43 = .ok (.aload_n 0, 1) := by decide +kernel
theorem dX6_strikes_44 : decode cX6_strikes 44 = .ok (.getfield 7, 3) := by decide +kernel
theorem dX6_strikes_47 : decode cX6_strikes 47 = .ok (.iload 6, 2) := by decide +kernel
theorem dX6_strikes_49 : decode cX6_strikes 49 = .ok (.iconst 1, 1) := by decide +kernel
theorem dX6_strikes_50 : decode cX6_strikes 50 = .ok (.iadd, 1) := by decide +kernel
theorem dX6_strikes_51 : decode cX6_strikes 51 = .ok (.iaload, 1) := by decide +kernel
theorem dX6_strikes_52 : decode cX6_strikes 52 = .ok (.idiv, 1) := by decide +kernel
theorem dX6_strikes_53 : decode cX6_strikes 53 = .ok (.iadd, 1) := by decide +kernel
theorem dX6_strikes_54 : decode cX6_strikes 54 = .ok (.bipush 100, 2) := by decide +kernel
theorem dX6_strikes_56 : decode cX6_strikes 56 = .ok (.invokestatic 34, 3) := by decide +kernel
theorem dX6_strikes_59 : decode cX6_strikes 59 = .ok (.iastore, 1) := by decide +kernel
theorem dX6_strikes_60 : decode cX6_strikes 60 = .ok (.aload_n 0, 1) := by decide +kernel
theorem dX6_strikes_61 : decode cX6_strikes 61 = .ok (.getfield 7, 3) := by decide +kernel
theorem dX6_strikes_64 : decode cX6_strikes 64 = .ok (.iload 5, 2) := by decide +kernel
theorem dX6_strikes_66 : decode cX6_strikes 66 = .ok (.iconst 2, 1) := by decide +kernel
theorem dX6_strikes_67 : decode cX6_strikes 67 = .ok (.iadd, 1) := by decide +kernel
theorem dX6_strikes_68 : decode cX6_strikes 68 = .ok (.aload_n 0, 1) := by decide +kernel
theorem dX6_strikes_69 : decode cX6_strikes 69 = .ok (.getfield 7, 3) := by decide +kernel
theorem dX6_strikes_72 : decode cX6_strikes 72 = .ok (.iload 5, 2) := by decide +kernel
theorem dX6_strikes_74 : decode cX6_strikes 74 = .ok (.iconst 2, 1) := by decide +kernel
theorem dX6_strikes_75 : decode cX6_strikes 75 = .ok (.iadd, 1) := by decide +kernel
theorem dX6_strikes_76 : decode cX6_strikes 76 = .ok (.iaload, 1) := by decide +kernel
theorem dX6_strikes_77 : decode cX6_strikes 77 = .ok (.iload 4, 2) := by decide +kernel
theorem dX6_strikes_79 : decode cX6_strikes 79 = .ok (.aload_n 0, 1) := by decide +kernel
theorem dX6_strikes_80 : decode cX6_strikes 80 = .ok (.getfield 7, 3) := by decide +kernel
theorem dX6_strikes_83 : decode cX6_strikes 83 = .ok (.iload 6, 2) := by decide +kernel
theorem dX6_strikes_85 : decode cX6_strikes 85 = .ok (.iconst 1, 1) := by decide +kernel
theorem dX6_strikes_86 : decode cX6_strikes 86 = .ok (.iadd, 1) := by decide +kernel
theorem dX6_strikes_87 : decode cX6_strikes 87 = .ok (.iaload, 1) := by decide +kernel
theorem dX6_strikes_88 : decode cX6_strikes 88 = .ok (.imul, 1) := by decide +kernel
theorem dX6_strikes_89 : decode cX6_strikes 89 = .ok (.iconst 2, 1) := by decide +kernel
theorem dX6_strikes_90 : decode cX6_strikes 90 = .ok (.aload_n 0, 1) := by decide +kernel
theorem dX6_strikes_91 : decode cX6_strikes 91 = .ok (.getfield 7, 3) := by decide +kernel
theorem dX6_strikes_94 : decode cX6_strikes 94 = .ok (.iload 5, 2) := by decide +kernel
theorem dX6_strikes_96 : decode cX6_strikes 96 = .ok (.iconst 1, 1) := by decide +kernel
theorem dX6_strikes_97 : decode cX6_strikes 97 = .ok (.iadd, 1) := by decide +kernel
theorem dX6_strikes_98 : decode cX6_strikes 98 = .ok (.iaload, 1) := by decide +kernel
theorem dX6_strikes_99 : decode cX6_strikes 99 = .ok (.imul, 1) := by decide +kernel
theorem dX6_strikes_100 : decode cX6_strikes 100 = .ok (.idiv, 1) := by decide +kernel
theorem dX6_strikes_101 : decode cX6_strikes 101 = .ok (.iadd, 1) := by decide +kernel
theorem dX6_strikes_102 : decode cX6_strikes 102 = .ok (.bipush 100, 2) := by decide +kernel
theorem dX6_strikes_104 : decode cX6_strikes 104 = .ok (.invokestatic 34, 3) := by decide +kernel
theorem dX6_strikes_107 : decode cX6_strikes 107 = .ok (.iastore, 1) := by decide +kernel
theorem dX6_strikes_108 : decode cX6_strikes 108 = .ok (.aload_n 0, 1) := by decide +kernel
theorem dX6_strikes_109 : decode cX6_strikes 109 = .ok (.getfield 7, 3) := by decide +kernel
theorem dX6_strikes_112 : decode cX6_strikes 112 = .ok (.iload 5, 2) := by decide +kernel
theorem dX6_strikes_114 : decode cX6_strikes 114 = .ok (.iconst 3, 1) := by decide +kernel
theorem dX6_strikes_115 : decode cX6_strikes 115 = .ok (.iadd, 1) := by decide +kernel
theorem dX6_strikes_116 : decode cX6_strikes 116 = .ok (.aload_n 0, 1) := by decide +kernel
theorem dX6_strikes_117 : decode cX6_strikes 117 = .ok (.getfield 7, 3) := by decide +kernel
theorem dX6_strikes_120 : decode cX6_strikes 120 = .ok (.iload 5, 2) := by decide +kernel
theorem dX6_strikes_122 : decode cX6_strikes 122 = .ok (.iconst 3, 1) := by decide +kernel
theorem dX6_strikes_123 : decode cX6_strikes 123 = .ok (.iadd, 1) := by decide +kernel
theorem dX6_strikes_124 : decode cX6_strikes 124 = .ok (.iaload, 1) := by decide +kernel
theorem dX6_strikes_125 : decode cX6_strikes 125 = .ok (.iload 4, 2) := by decide +kernel
theorem dX6_strikes_127 : decode cX6_strikes 127 = .ok (.bipush 6, 2) := by decide +kernel
theorem dX6_strikes_129 : decode cX6_strikes 129 = .ok (.if_icmp .le 7, 3) := by decide +kernel
theorem dX6_strikes_132 : decode cX6_strikes 132 = .ok (.iconst 2, 1) := by decide +kernel
theorem dX6_strikes_133 : decode cX6_strikes 133 = .ok (.goto 4, 3) := by decide +kernel
theorem dX6_strikes_136 : decode cX6_strikes 136 = .ok (.iconst 1, 1) := by decide +kernel
theorem dX6_strikes_137 : decode cX6_strikes 137 = .ok (.iadd, 1) := by decide +kernel
theorem dX6_strikes_138 : decode cX6_strikes 138 = .ok (.bipush 20, 2) := by decide +kernel
theorem dX6_strikes_140 : decode cX6_strikes 140 = .ok (.invokestatic 34, 3) := by decide +kernel
theorem dX6_strikes_143 : decode cX6_strikes 143 = .ok (.iastore, 1) := by decide +kernel
theorem dX6_strikes_144 : decode cX6_strikes 144 = .ok (.aload_n 0, 1) := by decide +kernel
theorem dX6_strikes_145 : decode cX6_strikes 145 = .ok (.getfield 7, 3) := by decide +kernel
theorem dX6_strikes_148 : decode cX6_strikes 148 = .ok (.iload 6, 2) := by decide +kernel
theorem dX6_strikes_150 : decode cX6_strikes 150 = .ok (.iconst 3, 1) := by decide +kernel
theorem dX6_strikes_151 : decode cX6_strikes 151 = .ok (.iadd, 1) := by decide +kernel
theorem dX6_strikes_152 : decode cX6_strikes 152 = .ok (.aload_n 0, 1) := by decide +kernel
theorem dX6_strikes_153 : decode cX6_strikes 153 = .ok (.getfield 7, 3) := by decide +kernel
theorem dX6_strikes_156 : decode cX6_strikes 156 = .ok (.iload 6, 2) := by decide +kernel
theorem dX6_strikes_158 : decode cX6_strikes 158 = .ok (.iconst 3, 1) := by decide +kernel
theorem dX6_strikes_159 : decode cX6_strikes 159 = .ok (.iadd, 1) := by decide +kernel
theorem dX6_strikes_160 : decode cX6_strikes 160 = .ok (.iaload, 1) := by decide +kernel
theorem dX6_strikes_161 : decode cX6_strikes 161 = .ok (.iconst 1, 1) := by decide +kernel
theorem dX6_strikes_162 : decode cX6_strikes 162 = .ok (.iadd, 1) := by decide +kernel
theorem dX6_strikes_163 : decode cX6_strikes 163 = .ok (.bipush 20, 2) := by decide +kernel
theorem dX6_strikes_165 : decode cX6_strikes 165 = .ok (.invokestatic 34, 3) := by decide +kernel
theorem dX6_strikes_168 : decode cX6_strikes 168 = .ok (.iastore, 1) := by decide +kernel
theorem dX6_strikes_169 : decode cX6_strikes 169 = .ok (.aload_n 0, 1) := by decide +kernel
theorem dX6_strikes_170 : decode cX6_strikes 170 = .ok (.getfield 7, 3) := by decide +kernel
theorem dX6_strikes_173 : decode cX6_strikes 173 = .ok (.iload_n 1, 1) := by decide +kernel
theorem dX6_strikes_174 : decode cX6_strikes 174 = .ok (.iconst 2, 1) := by decide +kernel
theorem dX6_strikes_175 : decode cX6_strikes 175 = .ok (.iadd, 1) := by decide +kernel
theorem dX6_strikes_176 : decode cX6_strikes 176 = .ok (.dup2, 1) := by decide +kernel
theorem dX6_strikes_177 : decode cX6_strikes 177 = .ok (.iaload, 1) := by decide +kernel
theorem dX6_strikes_178 : decode cX6_strikes 178 = .ok (.iconst 1, 1) := by decide +kernel
theorem dX6_strikes_179 : decode cX6_strikes 179 = .ok (.iadd, 1) := by decide +kernel
theorem dX6_strikes_180 : decode cX6_strikes 180 = .ok (.iastore, 1) := by decide +kernel
theorem dX6_strikes_181 : decode cX6_strikes 181 = .ok (.aload_n 0, 1) := by decide +kernel
theorem dX6_strikes_182 : decode cX6_strikes 182 = .ok (.getfield 7, 3) := by decide +kernel
theorem dX6_strikes_185 : decode cX6_strikes 185 = .ok (.iload 5, 2) := by decide +kernel
theorem dX6_strikes_187 : decode cX6_strikes 187 = .ok (.iconst 2, 1) := by decide +kernel
theorem dX6_strikes_188 : decode cX6_strikes 188 = .ok (.iadd, 1) := by decide +kernel
theorem dX6_strikes_189 : decode cX6_strikes 189 = .ok (.iaload, 1) := by decide +kernel
theorem dX6_strikes_190 : decode cX6_strikes 190 = .ok (.bipush 100, 2) := by decide +kernel
theorem dX6_strikes_192 : decode cX6_strikes 192 = .ok (.if_icmp .ne 7, 3) := by decide +kernel
theorem dX6_strikes_195 : decode cX6_strikes 195 = .ok (.iconst 1, 1) := by decide +kernel
theorem dX6_strikes_196 : decode cX6_strikes 196 = .ok (.goto 4, 3) := by decide +kernel
theorem dX6_strikes_199 : decode cX6_strikes 199 = .ok (.iconst 0, 1) := by decide +kernel
theorem dX6_strikes_200 : decode cX6_strikes 200 = .ok (.istore 7, 2) := by decide +kernel
theorem dX6_strikes_202 : decode cX6_strikes 202 = .ok (.aload_n 0, 1) := by decide +kernel
theorem dX6_strikes_203 : decode cX6_strikes 203 = .ok (.getfield 7, 3) := by decide +kernel
theorem dX6_strikes_206 : decode cX6_strikes 206 = .ok (.iload 6, 2) := by decide +kernel
theorem dX6_strikes_208 : decode cX6_strikes 208 = .ok (.iconst 2, 1) := by decide +kernel
theorem dX6_strikes_209 : decode cX6_strikes 209 = .ok (.iadd, 1) := by decide +kernel
theorem dX6_strikes_210 : decode cX6_strikes 210 = .ok (.iaload, 1) := by decide +kernel
theorem dX6_strikes_211 : decode cX6_strikes 211 = .ok (.bipush 100, 2) := by decide +kernel
theorem dX6_strikes_213 : decode cX6_strikes 213 = .ok (.if_icmp .ne 7, 3) := by decide +kernel
theorem dX6_strikes_216 : decode cX6_strikes 216 = .ok (.iconst 1, 1) := by decide +kernel
theorem dX6_strikes_217 : decode cX6_strikes 217 = .ok (.goto 4, 3) := by decide +kernel
theorem dX6_strikes_220 : decode cX6_strikes 220 = .ok (.iconst 0, 1) := by decide +kernel
theorem dX6_strikes_221 : decode cX6_strikes 221 = .ok (.istore 8, 2) := by decide +kernel
theorem dX6_strikes_223 : decode cX6_strikes 223 = .ok (.iload 7, 2) := by decide +kernel
theorem dX6_strikes_225 : decode cX6_strikes 225 = .ok (.ifCond .eq 57, 3) := by decide +kernel
theorem dX6_strikes_228 : decode cX6_strikes 228 = .ok (.iload 8, 2) := by decide +kernel
theorem dX6_strikes_230 : decode cX6_strikes 230 = .ok (.ifCond .eq 52, 3) := by decide +kernel
theorem dX6_strikes_233 : decode cX6_strikes 233 = .ok (.aload_n 0, 1) := by decide +kernel
theorem dX6_strikes_234 : decode cX6_strikes 234 = .ok (.getfield 7, 3) := by decide +kernel
theorem dX6_strikes_237 : decode cX6_strikes 237 = .ok (.iload_n 1, 1) := by decide +kernel
theorem dX6_strikes_238 : decode cX6_strikes 238 = .ok (.iconst 1, 1) := by decide +kernel
theorem dX6_strikes_239 : decode cX6_strikes 239 = .ok (.iadd, 1) := by decide +kernel
theorem dX6_strikes_240 : decode cX6_strikes 240 = .ok (.dup2, 1) := by decide +kernel
theorem dX6_strikes_241 : decode cX6_strikes 241 = .ok (.iaload, 1) := by decide +kernel
theorem dX6_strikes_242 : decode cX6_strikes 242 = .ok (.aload_n 0, 1) := by decide +kernel
theorem dX6_strikes_243 : decode cX6_strikes 243 = .ok (.getfield 7, 3) := by decide +kernel
theorem dX6_strikes_246 : decode cX6_strikes 246 = .ok (.iload 5, 2) := by decide +kernel
theorem dX6_strikes_248 : decode cX6_strikes 248 = .ok (.iconst 4, 1) := by decide +kernel
theorem dX6_strikes_249 : decode cX6_strikes 249 = .ok (.iadd, 1) := by decide +kernel
theorem dX6_strikes_250 : decode cX6_strikes 250 = .ok (.iaload, 1) := by decide +kernel
theorem dX6_strikes_251 : decode cX6_strikes 251 = .ok (.aload_n 0, 1) := by decide +kernel
theorem dX6_strikes_252 : decode cX6_strikes 252 = .ok (.getfield 7, 3) := by decide +kernel
theorem dX6_strikes_255 : decode cX6_strikes 255 = .ok (.iload 6, 2) := by decide +kernel
theorem dX6_strikes_257 : decode cX6_strikes 257 = .ok (.iconst 4, 1) := by decide +kernel
theorem dX6_strikes_258 : decode cX6_strikes 258 = .ok (.iadd, 1) := by decide +kernel
theorem dX6_strikes_259 : decode cX6_strikes 259 = .ok (.iaload, 1) := by decide +kernel
theorem dX6_strikes_260 : decode cX6_strikes 260 = .ok (.iadd, 1) := by decide +kernel
theorem dX6_strikes_261 : decode cX6_strikes 261 = .ok (.iadd, 1) := by decide +kernel
theorem dX6_strikes_262 : decode cX6_strikes 262 = .ok (.iastore, 1) := by decide +kernel
theorem dX6_strikes_263 : decode cX6_strikes 263 = .ok (.aload_n 0, 1) := by decide +kernel
theorem dX6_strikes_264 : decode cX6_strikes 264 = .ok (.iload 5, 2) := by decide +kernel
theorem dX6_strikes_266 : decode cX6_strikes 266 = .ok (.bipush (-5), 2) := by decide +kernel
theorem dX6_strikes_268 : decode cX6_strikes 268 = .ok (.invokevirtual 37, 3) := by decide +kernel
theorem dX6_strikes_271 : decode cX6_strikes 271 = .ok (.aload_n 0, 1) := by decide +kernel
theorem dX6_strikes_272 : decode cX6_strikes 272 = .ok (.iload 6, 2) := by decide +kernel
theorem dX6_strikes_274 : decode cX6_strikes 274 = .ok (.bipush (-5), 2) := by decide +kernel
theorem dX6_strikes_276 : decode cX6_strikes 276 = .ok (.invokevirtual 37, 3) := by decide +kernel
theorem dX6_strikes_279 : decode cX6_strikes 279 = .ok (.goto 92, 3) := by decide +kernel
theorem dX6_strikes_282 : decode cX6_strikes 282 = .ok (.iload 7, 2) := by decide +kernel
theorem dX6_strikes_284 : decode cX6_strikes 284 = .ok (.ifCond .ne 8, 3) := by decide +kernel
theorem dX6_strikes_287 : decode cX6_strikes 287 = .ok (.iload 8, 2) := by decide +kernel
theorem dX6_strikes_289 : decode cX6_strikes 289 = .ok (.ifCond .eq 82, 3) := by decide +kernel
theorem dX6_strikes_292 : decode cX6_strikes 292 = .ok (.iload 7, 2) := by decide +kernel
theorem dX6_strikes_294 : decode cX6_strikes 294 = .ok (.ifCond .eq 8, 3) := by decide +kernel
theorem dX6_strikes_297 : decode cX6_strikes 297 = .ok (.iload 6, 2) := by decide +kernel
theorem dX6_strikes_299 : decode cX6_strikes 299 = .ok (.goto 5, 3) := by decide +kernel
theorem dX6_strikes_302 : decode cX6_strikes 302 = .ok (.iload 5, 2) := by decide +kernel
theorem dX6_strikes_304 : decode cX6_strikes 304 = .ok (.istore 9, 2) := by decide +kernel
theorem dX6_strikes_306 : decode cX6_strikes 306 = .ok (.iload 7, 2) := by decide +kernel
theorem dX6_strikes_308 : decode cX6_strikes 308 = .ok (.ifCond .eq 8, 3) := by decide +kernel
theorem dX6_strikes_311 : decode cX6_strikes 311 = .ok (.iload 5, 2) := by decide +kernel
theorem dX6_strikes_313 : decode cX6_strikes 313 = .ok (.goto 5, 3) := by decide +kernel
theorem dX6_strikes_316 : decode cX6_strikes 316 = .ok (.iload 6, 2) := by decide +kernel
theorem dX6_strikes_318 : decode cX6_strikes 318 = .ok (.istore 10, 2) := by decide +kernel
theorem dX6_strikes_320 : decode cX6_strikes 320 = .ok (.aload_n 0, 1) := by decide +kernel
theorem dX6_strikes_321 : decode cX6_strikes 321 = .ok (.getfield 7, 3) := by decide +kernel
theorem dX6_strikes_324 : decode cX6_strikes 324 = .ok (.iload 9, 2) := by decide +kernel
theorem dX6_strikes_326 : decode cX6_strikes 326 = .ok (.iconst 4, 1) := by decide +kernel
theorem dX6_strikes_327 : decode cX6_strikes 327 = .ok (.iadd, 1) := by decide +kernel
theorem dX6_strikes_328 : decode cX6_strikes 328 = .ok (.dup2, 1) := by decide +kernel
theorem dX6_strikes_329 : decode cX6_strikes 329 = .ok (.iaload, 1) := by decide +kernel
theorem dX6_strikes_330 : decode cX6_strikes 330 = .ok (.iconst 1, 1) := by decide +kernel
theorem dX6_strikes_331 : decode cX6_strikes 331 = .ok (.aload_n 0, 1) := by decide +kernel
theorem dX6_strikes_332 : decode cX6_strikes 332 = .ok (.getfield 7, 3) := by decide +kernel
theorem dX6_strikes_335 : decode cX6_strikes 335 = .ok (.iload 10, 2) := by decide +kernel
theorem dX6_strikes_337 : decode cX6_strikes 337 = .ok (.iconst 4, 1) := by decide +kernel
theorem dX6_strikes_338 : decode cX6_strikes 338 = .ok (.iadd, 1) := by decide +kernel
theorem dX6_strikes_339 : decode cX6_strikes 339 = .ok (.iaload, 1) := by decide +kernel
theorem dX6_strikes_340 : decode cX6_strikes 340 = .ok (.iadd, 1) := by decide +kernel
theorem dX6_strikes_341 : decode cX6_strikes 341 = .ok (.iadd, 1) := by decide +kernel
theorem dX6_strikes_342 : decode cX6_strikes 342 = .ok (.iastore, 1) := by decide +kernel
theorem dX6_strikes_343 : decode cX6_strikes 343 = .ok (.aload_n 0, 1) := by decide +kernel
theorem dX6_strikes_344 : decode cX6_strikes 344 = .ok (.getfield 7, 3) := by decide +kernel
theorem dX6_strikes_347 : decode cX6_strikes 347 = .ok (.iload_n 1, 1) := by decide +kernel
theorem dX6_strikes_348 : decode cX6_strikes 348 = .ok (.iconst 3, 1) := by decide +kernel
theorem dX6_strikes_349 : decode cX6_strikes 349 = .ok (.iadd, 1) := by decide +kernel
theorem dX6_strikes_350 : decode cX6_strikes 350 = .ok (.dup2, 1) := by decide +kernel
theorem dX6_strikes_351 : decode cX6_strikes 351 = .ok (.iaload, 1) := by decide +kernel
theorem dX6_strikes_352 : decode cX6_strikes 352 = .ok (.iconst 1, 1) := by decide +kernel
theorem dX6_strikes_353 : decode cX6_strikes 353 = .ok (.iadd, 1) := by decide +kernel
theorem dX6_strikes_354 : decode cX6_strikes 354 = .ok (.iastore, 1) := by decide +kernel
theorem dX6_strikes_355 : decode cX6_strikes 355 = .ok (.aload_n 0, 1) := by decide +kernel
theorem dX6_strikes_356 : decode cX6_strikes 356 = .ok (.iload 10, 2) := by decide +kernel
theorem dX6_strikes_358 : decode cX6_strikes 358 = .ok (.iload 7, 2) := by decide +kernel
theorem dX6_strikes_360 : decode cX6_strikes 360 = .ok (.ifCond .eq 7, 3) := by decide +kernel
theorem dX6_strikes_363 : decode cX6_strikes 363 = .ok (.iload_n 3, 1) := by decide +kernel
theorem dX6_strikes_364 : decode cX6_strikes 364 = .ok (.goto 4, 3) := by decide +kernel
theorem dX6_strikes_367 : decode cX6_strikes 367 = .ok (.iload_n 2, 1) := by decide +kernel
theorem dX6_strikes_368 : decode cX6_strikes 368 = .ok (.invokevirtual 37, 3) := by decide +kernel
theorem dX6_strikes_371 : decode cX6_strikes 371 = .ok (.iload 7, 2) := by decide +kernel
theorem dX6_strikes_373 : decode cX6_strikes 373 = .ok (.ifCond .ne 21, 3) := by decide +kernel
theorem dX6_strikes_376 : decode cX6_strikes 376 = .ok (.aload_n 0, 1) := by decide +kernel
theorem dX6_strikes_377 : decode cX6_strikes 377 = .ok (.getfield 7, 3) := by decide +kernel
theorem dX6_strikes_380 : decode cX6_strikes 380 = .ok (.iload 5, 2) := by decide +kernel
theorem dX6_strikes_382 : decode cX6_strikes 382 = .ok (.iconst 3, 1) := by decide +kernel
theorem dX6_strikes_383 : decode cX6_strikes 383 = .ok (.iadd, 1) := by decide +kernel
theorem dX6_strikes_384 : decode cX6_strikes 384 = .ok (.iaload, 1) := by decide +kernel
theorem dX6_strikes_385 : decode cX6_strikes 385 = .ok (.bipush 20, 2) := by decide +kernel
theorem dX6_strikes_387 : decode cX6_strikes 387 = .ok (.if_icmp .ne 7, 3) := by decide +kernel
theorem dX6_strikes_390 : decode cX6_strikes 390 = .ok (.iconst 1, 1) := by decide +kernel
theorem dX6_strikes_391 : decode cX6_strikes 391 = .ok (.goto 4, 3) := by decide +kernel
theorem dX6_strikes_394 : decode cX6_strikes 394 = .ok (.iconst 0, 1) := by decide +kernel
theorem dX6_strikes_395 : decode cX6_strikes 395 = .ok (.istore 9, 2) := by decide +kernel
theorem dX6_strikes_397 : decode cX6_strikes 397 = .ok (.iload 8, 2) := by decide +kernel
theorem dX6_strikes_399 : decode cX6_strikes 399 = .ok (.ifCond .ne 21, 3) := by decide +kernel
theorem dX6_strikes_402 : decode cX6_strikes 402 = .ok (.aload_n 0, 1) := by decide +kernel
theorem dX6_strikes_403 : decode cX6_strikes 403 = .ok (.getfield 7, 3) := by decide +kernel
theorem dX6_strikes_406 : decode cX6_strikes 406 = .ok (.iload 6, 2) := by decide +kernel
theorem dX6_strikes_408 : decode cX6_strikes 408 = .ok (.iconst 3, 1) := by decide +kernel
theorem dX6_strikes_409 : decode cX6_strikes 409 = .ok (.iadd, 1) := by decide +kernel
theorem dX6_strikes_410 : decode cX6_strikes 410 = .ok (.iaload, 1) := by decide +kernel
theorem dX6_strikes_411 : decode cX6_strikes 411 = .ok (.bipush 20, 2) := by decide +kernel
theorem dX6_strikes_413 : decode cX6_strikes 413 = .ok (.if_icmp .ne 7, 3) := by decide +kernel
theorem dX6_strikes_416 : decode cX6_strikes 416 = .ok (.iconst 1, 1) := by decide +kernel
theorem dX6_strikes_417 : decode cX6_strikes 417 = .ok (.goto 4, 3) := by decide +kernel
theorem dX6_strikes_420 : decode cX6_strikes 420 = .ok (.iconst 0, 1) := by decide +kernel
theorem dX6_strikes_421 : decode cX6_strikes 421 = .ok (.istore 10, 2) := by decide +kernel
theorem dX6_strikes_423 : decode cX6_strikes 423 = .ok (.aload_n 0, 1) := by decide +kernel
theorem dX6_strikes_424 : decode cX6_strikes 424 = .ok (.getfield 7, 3) := by decide +kernel
theorem dX6_strikes_427 : decode cX6_strikes 427 = .ok (.iload 5, 2) := by decide +kernel
theorem dX6_strikes_429 : decode cX6_strikes 429 = .ok (.bipush 6, 2) := by decide +kernel
theorem dX6_strikes_431 : decode cX6_strikes 431 = .ok (.iadd, 1) := by decide +kernel
theorem dX6_strikes_432 : decode cX6_strikes 432 = .ok (.iload 9, 2) := by decide +kernel
theorem dX6_strikes_434 : decode cX6_strikes 434 = .ok (.ifCond .eq 7, 3) := by decide +kernel
theorem dX6_strikes_437 : decode cX6_strikes 437 = .ok (.iconst 1, 1) := by decide +kernel
theorem dX6_strikes_438 : decode cX6_strikes 438 = .ok (.goto 13, 3) := by decide +kernel
theorem dX6_strikes_441 : decode cX6_strikes 441 = .ok (.aload_n 0, 1) := by decide +kernel
theorem dX6_strikes_442 : decode cX6_strikes 442 = .ok (.getfield 7, 3) := by decide +kernel
theorem dX6_strikes_445 : decode cX6_strikes 445 = .ok (.iload 5, 2) := by decide +kernel
theorem dX6_strikes_447 : decode cX6_strikes 447 = .ok (.bipush 6, 2) := by decide +kernel
theorem dX6_strikes_449 : decode cX6_strikes 449 = .ok (.iadd, 1) := by decide +kernel
theorem dX6_strikes_450 : decode cX6_strikes 450 = .ok (.iaload, 1) := by decide +kernel
theorem dX6_strikes_451 : decode cX6_strikes 451 = .ok (.iastore, 1) := by decide +kernel
theorem dX6_strikes_452 : decode cX6_strikes 452 = .ok (.aload_n 0, 1) := by decide +kernel
theorem dX6_strikes_453 : decode cX6_strikes 453 = .ok (.getfield 7, 3) := by decide +kernel
theorem dX6_strikes_456 : decode cX6_strikes 456 = .ok (.iload 6, 2) := by decide +kernel
theorem dX6_strikes_458 : decode cX6_strikes 458 = .ok (.bipush 6, 2) := by decide +kernel
theorem dX6_strikes_460 : decode cX6_strikes 460 = .ok (.iadd, 1) := by decide +kernel
theorem dX6_strikes_461 : decode cX6_strikes 461 = .ok (.iload 10, 2) := by decide +kernel
theorem dX6_strikes_463 : decode cX6_strikes 463 = .ok (.ifCond .eq 7, 3) := by decide +kernel
theorem dX6_strikes_466 : decode cX6_strikes 466 = .ok (.iconst 1, 1) := by decide +kernel
theorem dX6_strikes_467 : decode cX6_strikes 467 = .ok (.goto 13, 3) := by decide +kernel
theorem dX6_strikes_470 : decode cX6_strikes 470 = .ok (.aload_n 0, 1) := by decide +kernel
theorem dX6_strikes_471 : decode cX6_strikes 471 = .ok (.getfield 7, 3) := by decide +kernel
theorem dX6_strikes_474 : decode cX6_strikes 474 = .ok (.iload 6, 2) := by decide +kernel
theorem dX6_strikes_476 : decode cX6_strikes 476 = .ok (.bipush 6, 2) := by decide +kernel
theorem dX6_strikes_478 : decode cX6_strikes 478 = .ok (.iadd, 1) := by decide +kernel
theorem dX6_strikes_479 : decode cX6_strikes 479 = .ok (.iaload, 1) := by decide +kernel
theorem dX6_strikes_480 : decode cX6_strikes 480 = .ok (.iastore, 1) := by decide +kernel
theorem dX6_strikes_481 : decode cX6_strikes 481 = .ok (.iload 7, 2) := by decide +kernel
theorem dX6_strikes_483 : decode cX6_strikes 483 = .ok (.invokestatic 40, 3) := by decide +kernel
theorem dX6_strikes_486 : decode cX6_strikes 486 = .ok (.iconst 2, 1) := by decide +kernel
theorem dX6_strikes_487 : decode cX6_strikes 487 = .ok (.iload 8, 2) := by decide +kernel
theorem dX6_strikes_489 : decode cX6_strikes 489 = .ok (.invokestatic 40, 3) := by decide +kernel
theorem dX6_strikes_492 : decode cX6_strikes 492 = .ok (.imul, 1) := by decide +kernel
theorem dX6_strikes_493 : decode cX6_strikes 493 = .ok (.iadd, 1) := by decide +kernel
theorem dX6_strikes_494 : decode cX6_strikes 494 = .ok (.iconst 4, 1) := by decide +kernel
theorem dX6_strikes_495 : decode cX6_strikes 495 = .ok (.iload 9, 2) := by decide +kernel
theorem dX6_strikes_497 : decode cX6_strikes 497 = .ok (.invokestatic 40, 3) := by decide +kernel
theorem dX6_strikes_500 : decode cX6_strikes 500 = .ok (.imul, 1) := by decide +kernel
theorem dX6_strikes_501 : decode cX6_strikes 501 = .ok (.iadd, 1) := by decide +kernel
theorem dX6_strikes_502 : decode cX6_strikes 502 = .ok (.bipush 8, 2) := by decide +kernel
theorem dX6_strikes_504 : decode cX6_strikes 504 = .ok (.iload 10, 2) := by decide +kernel
theorem dX6_strikes_506 : decode cX6_strikes 506 = .ok (.invokestatic 40, 3) := by decide +kernel
theorem dX6_strikes_509 : decode cX6_strikes 509 = .ok (.imul, 1) := by decide +kernel
theorem dX6_strikes_510 : decode cX6_strikes 510 = .ok (.iadd, 1) := by decide +kernel
theorem dX6_strikes_511 : decode cX6_strikes 511 = .ok (.ireturn, 1) := by decide +kernel
theorem dX6_goesOn_0 : decode cX6_goesOn 0 = .ok (.aload_n 0, 1) := by decide +kernel
theorem dX6_goesOn_1 : decode cX6_goesOn 1 = .ok (.sipush 25173, 3) := by decide +kernel
theorem dX6_goesOn_4 : decode cX6_goesOn 4 = .ok (.aload_n 0, 1) := by decide +kernel
theorem dX6_goesOn_5 : decode cX6_goesOn 5 = .ok (.getfield 44, 3) := by decide +kernel
theorem dX6_goesOn_8 : decode cX6_goesOn 8 = .ok (.imul, 1) := by decide +kernel
theorem dX6_goesOn_9 : decode cX6_goesOn 9 = .ok (.sipush 13849, 3) := by decide +kernel
theorem dX6_goesOn_12 : decode cX6_goesOn 12 = .ok (.iadd, 1) := by decide +kernel
theorem dX6_goesOn_13 : decode cX6_goesOn 13 = .ok (.ldc 47, 2) := by decide +kernel
theorem dX6_goesOn_15 : decode cX6_goesOn 15 = .ok (.irem, 1) := by decide +kernel
theorem dX6_goesOn_16 : decode cX6_goesOn 16 = .ok (.putfield 44, 3) := by decide +kernel
theorem dX6_goesOn_19 : decode cX6_goesOn 19 = .ok (.return_, 1) := by decide +kernel
set_option maxRecDepth 20000 in
theorem ggX6_fights_X6_less : GoodIn wsX6_fights wsX6_less := goodIn_r _ [6] (by decide +kernel) (by decide +kernel)
set_option maxRecDepth 20000 in
theorem gX6_fights_X6_less : GoodIn wsX6_fights (va_wsS RX6 34 yX6_less wsX6_less) := goodIn_app (goodIn_of _ (by decide +kernel)) ggX6_fights_X6_less
set_option maxRecDepth 20000 in
theorem ggX6_fights_X6_at : GoodIn wsX6_fights wsX6_at := goodIn_r _ [9] (by decide +kernel) (by decide +kernel)
set_option maxRecDepth 20000 in
theorem gX6_fights_X6_at : GoodIn wsX6_fights (va_wsS RX6 30 yX6_at wsX6_at) := goodIn_app (goodIn_of _ (by decide +kernel)) ggX6_fights_X6_at
set_option maxRecDepth 20000 in
theorem ggX6_fights_X6_goesOn : GoodIn wsX6_fights wsX6_goesOn := goodIn_r _ [13, 2, 14, 26, 27, 28, 29, 30, 31, 32, 33, 34, 35, 36, 37, 38] (by decide +kernel) (by decide +kernel)
set_option maxRecDepth 20000 in
theorem gX6_fights_X6_goesOn : GoodIn wsX6_fights (wsV RX6 48 RX6 yX6_goesOn wsX6_goesOn) := goodIn_app (goodIn_of _ (by decide +kernel)) ggX6_fights_X6_goesOn
set_option maxRecDepth 20000 in
theorem ggX6_fights_X6_strikes : GoodIn wsX6_fights wsX6_strikes := goodIn_r _ [18, 1, 7, 8, 5, 9, 3, 4, 6, 19, 20, 21, 22, 23, 24, 25, 26, 27, 28, 29, 30, 31, 32, 33, 34, 35, 36, 37, 38] (by decide +kernel) (by decide +kernel)
set_option maxRecDepth 20000 in
theorem gX6_fights_X6_strikes : GoodIn wsX6_fights (wsV RX6 51 RX6 yX6_strikes wsX6_strikes) := goodIn_app (goodIn_of _ (by decide +kernel)) ggX6_fights_X6_strikes
theorem dX6_fights_0 : decode cX6_fights 0 = .ok (.iload_n 2, 1) := by decide +kernel
theorem dX6_fights_1 : decode cX6_fights 1 = .ok (.iload_n 3, 1) := by decide +kernel
theorem dX6_fights_2 : decode cX6_fights 2 = .ok (.invokestatic 34, 3) := by decide +kernel
theorem dX6_fights_5 : decode cX6_fights 5 = .ok (.istore 4, 2) := by decide +kernel
theorem dX6_fights_7 : decode cX6_fights 7 = .ok (.iload_n 2, 1) := by decide +kernel
theorem dX6_fights_8 : decode cX6_fights 8 = .ok (.iload_n 3, 1) := by decide +kernel
theorem dX6_fights_9 : decode cX6_fights 9 = .ok (.iadd, 1) := by decide +kernel
theorem dX6_fights_10 : decode cX6_fights 10 = .ok (.iload 4, 2) := by decide +kernel
theorem dX6_fights_12 : decode cX6_fights 12 = .ok (.isub, 1) := by decide +kernel
theorem dX6_fights_13 : decode cX6_fights 13 = .ok (.istore 5, 2) := by decide +kernel
theorem dX6_fights_15 : decode cX6_fights 15 = .ok (.iconst 0, 1) := by decide +kernel
theorem dX6_fights_16 : decode cX6_fights 16 = .ok (.istore 6, 2) := by decide +kernel
theorem dX6_fights_18 : decode cX6_fights 18 = .ok (.iload 6, 2) := by decide +kernel
theorem dX6_fights_20 : decode cX6_fights 20 = .ok (.bipush 20, 2) := by decide +kernel
theorem dX6_fights_22 : decode cX6_fights 22 = .ok (.if_icmp .ge 78, 3) := by decide +kernel
theorem dX6_fights_25 : decode cX6_fights 25 = .ok (.aload_n 0, 1) := by decide +kernel
theorem dX6_fights_26 : decode cX6_fights 26 = .ok (.getfield 7, 3) := by decide +kernel
theorem dX6_fights_29 : decode cX6_fights 29 = .ok (.iload_n 1, 1) := by decide +kernel
theorem dX6_fights_30 : decode cX6_fights 30 = .ok (.iload_n 2, 1) := by decide +kernel
theorem dX6_fights_31 : decode cX6_fights 31 = .ok (.invokestatic 30, 3) := by decide +kernel
theorem dX6_fights_34 : decode cX6_fights 34 = .ok (.bipush 6, 2) := by decide +kernel
theorem dX6_fights_36 : decode cX6_fights 36 = .ok (.iadd, 1) := by decide +kernel
theorem dX6_fights_37 : decode cX6_fights 37 = .ok (.iaload, 1) := by decide +kernel
theorem dX6_fights_38 : decode cX6_fights 38 = .ok (.ifCond .ne 62, 3) := by decide +kernel
theorem dX6_fights_41 : decode cX6_fights 41 = .ok (.aload_n 0, 1) := by decide +kernel
theorem dX6_fights_42 : decode cX6_fights 42 = .ok (.getfield 7, 3) := by decide +kernel
theorem dX6_fights_45 : decode cX6_fights 45 = .ok (.iload_n 1, 1) := by decide +kernel
theorem dX6_fights_46 : decode cX6_fights 46 = .ok (.iload_n 3, 1) := by decide +kernel
theorem dX6_fights_47 : decode cX6_fights 47 = .ok (.invokestatic 30, 3) := by decide +kernel
theorem dX6_fights_50 : decode cX6_fights 50 = .ok (.bipush 6, 2) := by decide +kernel
theorem dX6_fights_52 : decode cX6_fights 52 = .ok (.iadd, 1) := by decide +kernel
theorem dX6_fights_53 : decode cX6_fights 53 = .ok (.iaload, 1) := by decide +kernel
theorem dX6_fights_54 : decode cX6_fights 54 = .ok (.ifCond .ne 46, 3) := by decide +kernel
theorem dX6_fights_57 : decode cX6_fights 57 = .ok (.aload_n 0, 1) := by decide +kernel
theorem dX6_fights_58 : decode cX6_fights 58 = .ok (.invokevirtual 48, 3) := by decide +kernel
theorem dX6_fights_61 : decode cX6_fights 61 = .ok (.aload_n 0, 1) := by decide +kernel
theorem dX6_fights_62 : decode cX6_fights 62 = .ok (.iload_n 1, 1) := by decide +kernel
theorem dX6_fights_63 : decode cX6_fights 63 = .ok (.iload 4, 2) := by decide +kernel
theorem dX6_fights_65 : decode cX6_fights 65 = .ok (.iload 5, 2) := by decide +kernel
theorem dX6_fights_67 : decode cX6_fights 67 = .ok (.iconst 1, 1) := by decide +kernel
theorem dX6_fights_68 : decode cX6_fights 68 = .ok (.aload_n 0, 1) := by decide +kernel
theorem dX6_fights_69 : decode cX6_fights 69 = .ok (.getfield 44, 3) := by decide +kernel
theorem dX6_fights_72 : decode cX6_fights 72 = .ok (.sipush 7282, 3) := by decide +kernel
theorem dX6_fights_75 : decode cX6_fights 75 = .ok (.idiv, 1) := by decide +kernel
theorem dX6_fights_76 : decode cX6_fights 76 = .ok (.iadd, 1) := by decide +kernel
theorem dX6_fights_77 : decode cX6_fights 77 = .ok (.invokevirtual 51, 3) := by decide +kernel
theorem dX6_fights_80 : decode cX6_fights 80 = .ok (.istore 7, 2) := by decide +kernel
theorem dX6_fights_82 : decode cX6_fights 82 = .ok (.iload 5, 2) := by decide +kernel
theorem dX6_fights_84 : decode cX6_fights 84 = .ok (.istore 8, 2) := by decide +kernel
theorem dX6_fights_86 : decode cX6_fights 86 = .ok (.iload 4, 2) := by decide +kernel
theorem dX6_fights_88 : decode cX6_fights 88 = .ok (.istore 5, 2) := by decide +kernel
theorem dX6_fights_90 : decode cX6_fights 90 = .ok (.iload 8, 2) := by decide +kernel
theorem dX6_fights_92 : decode cX6_fights 92 = .ok (.istore 4, 2) := by decide +kernel
theorem dX6_fights_94 : decode cX6_fights 94 = .ok (.iinc 6 1, 3) := by decide +kernel
theorem dX6_fights_97 : decode cX6_fights 97 = .ok (.goto (-79), 3) := by decide +kernel
theorem dX6_fights_100 : decode cX6_fights 100 = .ok (.iload 6, 2) := by decide +kernel
theorem dX6_fights_102 : decode cX6_fights 102 = .ok (.ireturn, 1) := by decide +kernel
set_option maxRecDepth 20000 in
theorem ggX6_isConker_X6_in : GoodIn wsX6_isConker wsX6_in := goodIn_r _ [5] (by decide +kernel) (by decide +kernel)
set_option maxRecDepth 20000 in
theorem gX6_isConker_X6_in : GoodIn wsX6_isConker (va_wsS RX6 55 yX6_in wsX6_in) := goodIn_app (goodIn_of _ (by decide +kernel)) ggX6_isConker_X6_in
theorem dX6_isConker_0 : decode cX6_isConker 0 = .ok (.iload_n 1, 1) := by decide +kernel
theorem dX6_isConker_1 : decode cX6_isConker 1 = .ok (.iconst 0, 1) := by decide +kernel
theorem dX6_isConker_2 : decode cX6_isConker 2 = .ok (.aload_n 0, 1) := by decide +kernel
theorem dX6_isConker_3 : decode cX6_isConker 3 = .ok (.getfield 7, 3) := by decide +kernel
theorem dX6_isConker_6 : decode cX6_isConker 6 = .ok (.iconst 0, 1) := by decide +kernel
theorem dX6_isConker_7 : decode cX6_isConker 7 = .ok (.iaload, 1) := by decide +kernel
theorem dX6_isConker_8 : decode cX6_isConker 8 = .ok (.iconst 1, 1) := by decide +kernel
theorem dX6_isConker_9 : decode cX6_isConker 9 = .ok (.isub, 1) := by decide +kernel
theorem dX6_isConker_10 : decode cX6_isConker 10 = .ok (.invokestatic 55, 3) := by decide +kernel
theorem dX6_isConker_13 : decode cX6_isConker 13 = .ok (.ireturn, 1) := by decide +kernel
set_option maxRecDepth 20000 in
theorem ggX6_isPlayer_X6_in : GoodIn wsX6_isPlayer wsX6_in := goodIn_r _ [4] (by decide +kernel) (by decide +kernel)
set_option maxRecDepth 20000 in
theorem gX6_isPlayer_X6_in : GoodIn wsX6_isPlayer (va_wsS RX6 55 yX6_in wsX6_in) := goodIn_app (goodIn_of _ (by decide +kernel)) ggX6_isPlayer_X6_in
theorem dX6_isPlayer_0 : decode cX6_isPlayer 0 = .ok (.iload_n 0, 1) := by decide +kernel
theorem dX6_isPlayer_1 : decode cX6_isPlayer 1 = .ok (.iconst 0, 1) := by decide +kernel
theorem dX6_isPlayer_2 : decode cX6_isPlayer 2 = .ok (.iconst 5, 1) := by decide +kernel
theorem dX6_isPlayer_3 : decode cX6_isPlayer 3 = .ok (.invokestatic 55, 3) := by decide +kernel
theorem dX6_isPlayer_6 : decode cX6_isPlayer 6 = .ok (.ireturn, 1) := by decide +kernel
set_option maxRecDepth 20000 in
theorem ggX6_pairError_X6_isConker : GoodIn wsX6_pairError wsX6_isConker := goodIn_r _ [6, 1, 7, 8, 5, 9, 13, 14, 15, 16, 17, 18, 19, 20, 21, 22, 23, 24, 25] (by decide +kernel) (by decide +kernel)
set_option maxRecDepth 20000 in
theorem gX6_pairError_X6_isConker : GoodIn wsX6_pairError (wsV RX6 59 RX6 yX6_isConker wsX6_isConker) := goodIn_app (goodIn_of _ (by decide +kernel)) ggX6_pairError_X6_isConker
set_option maxRecDepth 20000 in
theorem ggX6_pairError_X6_at : GoodIn wsX6_pairError wsX6_at := goodIn_r _ [12] (by decide +kernel) (by decide +kernel)
set_option maxRecDepth 20000 in
theorem gX6_pairError_X6_at : GoodIn wsX6_pairError (va_wsS RX6 30 yX6_at wsX6_at) := goodIn_app (goodIn_of _ (by decide +kernel)) ggX6_pairError_X6_at
theorem dX6_pairError_0 : decode cX6_pairError 0 = .ok (.aload_n 0, 1) := by decide +kernel
theorem dX6_pairError_1 : decode cX6_pairError 1 = .ok (.iload_n 1, 1) := by decide +kernel
theorem dX6_pairError_2 : decode cX6_pairError 2 = .ok (.invokevirtual 59, 3) := by decide +kernel
theorem dX6_pairError_5 : decode cX6_pairError 5 = .ok (.ifCond .eq 11, 3) := by decide +kernel
theorem dX6_pairError_8 : decode cX6_pairError 8 = .ok (.aload_n 0, 1) := by decide +kernel
theorem dX6_pairError_9 : decode cX6_pairError 9 = .ok (.iload_n 2, 1) := by decide +kernel
theorem dX6_pairError_10 : decode cX6_pairError 10 = .ok (.invokevirtual 59, 3) := by decide +kernel
theorem dX6_pairError_13 : decode cX6_pairError 13 = .ok (.ifCond .ne 5, 3) := by decide +kernel
theorem dX6_pairError_16 : decode cX6_pairError 16 = .ok (.iconst (-1), 1) := by decide +kernel
theorem dX6_pairError_17 : decode cX6_pairError 17 = .ok (.ireturn, 1) := by decide +kernel
theorem dX6_pairError_18 : decode cX6_pairError 18 = .ok (.iload_n 3, 1) := by decide +kernel
theorem dX6_pairError_19 : decode cX6_pairError 19 = .ok (.ifCond .ne 6, 3) := by decide +kernel
theorem dX6_pairError_22 : decode cX6_pairError 22 = .ok (.bipush (-2), 2) := by decide +kernel
theorem dX6_pairError_24 : decode cX6_pairError 24 = .ok (.ireturn, 1) := by decide +kernel
theorem dX6_pairError_25 : decode cX6_pairError 25 = .ok (.aload_n 0, 1) := by decide +kernel
theorem dX6_pairError_26 : decode cX6_pairError 26 = .ok (.getfield 7, 3) := by decide +kernel
theorem dX6_pairError_29 : decode cX6_pairError 29 = .ok (.iconst 0, 1) := by decide +kernel
theorem dX6_pairError_30 : decode cX6_pairError 30 = .ok (.iload_n 1, 1) := by decide +kernel
theorem dX6_pairError_31 : decode cX6_pairError 31 = .ok (.invokestatic 30, 3) := by decide +kernel
theorem dX6_pairError_34 : decode cX6_pairError 34 = .ok (.bipush 6, 2) := by decide +kernel
theorem dX6_pairError_36 : decode cX6_pairError 36 = .ok (.iadd, 1) := by decide +kernel
theorem dX6_pairError_37 : decode cX6_pairError 37 = .ok (.iaload, 1) := by decide +kernel
theorem dX6_pairError_38 : decode cX6_pairError 38 = .ok (.ifCond .ne 23, 3) := by decide +kernel
theorem dX6_pairError_41 : decode cX6_pairError 41 = .ok (.aload_n 0, 1) := by decide +kernel
theorem dX6_pairError_42 : decode cX6_pairError 42 = .ok (.getfield 7, 3) := by decide +kernel
theorem dX6_pairError_45 : decode cX6_pairError 45 = .ok (.iconst 0, 1) := by decide +kernel
theorem dX6_pairError_46 : decode cX6_pairError 46 = .ok (.iload_n 2, 1) := by decide +kernel
theorem dX6_pairError_47 : decode cX6_pairError 47 = .ok (.invokestatic 30, 3) := by decide +kernel
theorem dX6_pairError_50 : decode cX6_pairError 50 = .ok (.bipush 6, 2) := by decide +kernel
theorem dX6_pairError_52 : decode cX6_pairError 52 = .ok (.iadd, 1) := by decide +kernel
theorem dX6_pairError_53 : decode cX6_pairError 53 = .ok (.iaload, 1) := by decide +kernel
theorem dX6_pairError_54 : decode cX6_pairError 54 = .ok (.ifCond .ne 7, 3) := by decide +kernel
theorem dX6_pairError_57 : decode cX6_pairError 57 = .ok (.iconst 1, 1) := by decide +kernel
theorem dX6_pairError_58 : decode cX6_pairError 58 = .ok (.goto 4, 3) := by decide +kernel
theorem dX6_pairError_61 : decode cX6_pairError 61 = .ok (.iconst 0, 1) := by decide +kernel
theorem dX6_pairError_62 : decode cX6_pairError 62 = .ok (.istore 4, 2) := by decide +kernel
theorem dX6_pairError_64 : decode cX6_pairError 64 = .ok (.aload_n 0, 1) := by decide +kernel
theorem dX6_pairError_65 : decode cX6_pairError 65 = .ok (.getfield 7, 3) := by decide +kernel
theorem dX6_pairError_68 : decode cX6_pairError 68 = .ok (.iconst 0, 1) := by decide +kernel
theorem dX6_pairError_69 : decode cX6_pairError 69 = .ok (.iload_n 1, 1) := by decide +kernel
theorem dX6_pairError_70 : decode cX6_pairError 70 = .ok (.invokestatic 30, 3) := by decide +kernel
theorem dX6_pairError_73 : decode cX6_pairError 73 = .ok (.iaload, 1) := by decide +kernel
theorem dX6_pairError_74 : decode cX6_pairError 74 = .ok (.aload_n 0, 1) := by decide +kernel
theorem dX6_pairError_75 : decode cX6_pairError 75 = .ok (.getfield 7, 3) := by decide +kernel
theorem dX6_pairError_78 : decode cX6_pairError 78 = .ok (.iconst 0, 1) := by decide +kernel
theorem dX6_pairError_79 : decode cX6_pairError 79 = .ok (.iload_n 2, 1) := by decide +kernel
theorem dX6_pairError_80 : decode cX6_pairError 80 = .ok (.invokestatic 30, 3) := by decide +kernel
theorem dX6_pairError_83 : decode cX6_pairError 83 = .ok (.iaload, 1) := by decide +kernel
theorem dX6_pairError_84 : decode cX6_pairError 84 = .ok (.if_icmp .eq 8, 3) := by decide +kernel
theorem dX6_pairError_87 : decode cX6_pairError 87 = .ok (.iload 4, 2) := by decide +kernel
theorem dX6_pairError_89 : decode cX6_pairError 89 = .ok (.ifCond .ne 8, 3) := by decide +kernel
theorem dX6_pairError_92 : decode cX6_pairError 92 = .ok (.bipush (-4), 2) := by decide +kernel
theorem dX6_pairError_94 : decode cX6_pairError 94 = .ok (.goto 4, 3) := by decide +kernel
theorem dX6_pairError_97 : decode cX6_pairError 97 = .ok (.iconst 0, 1) := by decide +kernel
theorem dX6_pairError_98 : decode cX6_pairError 98 = .ok (.ireturn, 1) := by decide +kernel
set_option maxRecDepth 20000 in
theorem ggX6_strikeError_X6_in : GoodIn wsX6_strikeError wsX6_in := goodIn_r _ [4] (by decide +kernel) (by decide +kernel)
set_option maxRecDepth 20000 in
theorem gX6_strikeError_X6_in : GoodIn wsX6_strikeError (va_wsS RX6 55 yX6_in wsX6_in) := goodIn_app (goodIn_of _ (by decide +kernel)) ggX6_strikeError_X6_in
set_option maxRecDepth 20000 in
theorem ggX6_strikeError_X6_pairError : GoodIn wsX6_strikeError wsX6_pairError := goodIn_r _ [8, 9, 10, 11, 12, 3, 13, 1, 2, 4, 14, 15, 16, 17, 18, 19, 20, 21, 22, 23, 24, 25, 26, 27, 28, 29] (by decide +kernel) (by decide +kernel)
set_option maxRecDepth 20000 in
theorem gX6_strikeError_X6_pairError : GoodIn wsX6_strikeError (wsV RX6 63 RX6 yX6_pairError wsX6_pairError) := goodIn_app (goodIn_of _ (by decide +kernel)) ggX6_strikeError_X6_pairError
theorem dX6_strikeError_0 : decode cX6_strikeError 0 = .ok (.aload_n 0, 1) := by decide +kernel
theorem dX6_strikeError_1 : decode cX6_strikeError 1 = .ok (.iload_n 1, 1) := by decide +kernel
theorem dX6_strikeError_2 : decode cX6_strikeError 2 = .ok (.iload_n 2, 1) := by decide +kernel
theorem dX6_strikeError_3 : decode cX6_strikeError 3 = .ok (.iload_n 3, 1) := by decide +kernel
theorem dX6_strikeError_4 : decode cX6_strikeError 4 = .ok (.iconst 1, 1) := by decide +kernel
theorem dX6_strikeError_5 : decode cX6_strikeError 5 = .ok (.bipush 9, 2) := by decide +kernel
theorem dX6_strikeError_7 : decode cX6_strikeError 7 = .ok (.invokestatic 55, 3) := by decide +kernel
theorem dX6_strikeError_10 : decode cX6_strikeError 10 = .ok (.invokevirtual 63, 3) := by decide +kernel
theorem dX6_strikeError_13 : decode cX6_strikeError 13 = .ok (.ireturn, 1) := by decide +kernel
set_option maxRecDepth 20000 in
theorem ggX6_spare_X6_at : GoodIn wsX6_spare wsX6_at := goodIn_r _ [5] (by decide +kernel) (by decide +kernel)
set_option maxRecDepth 20000 in
theorem gX6_spare_X6_at : GoodIn wsX6_spare (va_wsS RX6 30 yX6_at wsX6_at) := goodIn_app (goodIn_of _ (by decide +kernel)) ggX6_spare_X6_at
theorem dX6_spare_0 : decode cX6_spare 0 = .ok (.iconst 4, 1) := by decide +kernel
theorem dX6_spare_1 : decode cX6_spare 1 = .ok (.iconst 2, 1) := by decide +kernel
theorem dX6_spare_2 : decode cX6_spare 2 = .ok (.aload_n 0, 1) := by decide +kernel
theorem dX6_spare_3 : decode cX6_spare 3 = .ok (.getfield 7, 3) := by decide +kernel
theorem dX6_spare_6 : decode cX6_spare 6 = .ok (.iconst 0, 1) := by decide +kernel
theorem dX6_spare_7 : decode cX6_spare 7 = .ok (.iload_n 1, 1) := by decide +kernel
theorem dX6_spare_8 : decode cX6_spare 8 = .ok (.invokestatic 30, 3) := by decide +kernel
theorem dX6_spare_11 : decode cX6_spare 11 = .ok (.iaload, 1) := by decide +kernel
theorem dX6_spare_12 : decode cX6_spare 12 = .ok (.imul, 1) := by decide +kernel
end
section
theorem dX6_spare_13 : decode cX6_spare 13 = .ok (.iadd, 1) := by decide +kernel
theorem dX6_spare_14 : decode cX6_spare 14 = .ok (.ireturn, 1) := by decide +kernel
set_option maxRecDepth 20000 in
theorem ggX6_mendError_X6_isConker : GoodIn wsX6_mendError wsX6_isConker := goodIn_r _ [6, 1, 7, 8, 5, 9, 17, 18, 19, 20, 21, 22, 23, 24, 25, 26, 27, 28, 29] (by decide +kernel) (by decide +kernel)
set_option maxRecDepth 20000 in
theorem gX6_mendError_X6_isConker : GoodIn wsX6_mendError (wsV RX6 59 RX6 yX6_isConker wsX6_isConker) := goodIn_app (goodIn_of _ (by decide +kernel)) ggX6_mendError_X6_isConker
set_option maxRecDepth 20000 in
theorem ggX6_mendError_X6_at : GoodIn wsX6_mendError wsX6_at := goodIn_r _ [12] (by decide +kernel) (by decide +kernel)
set_option maxRecDepth 20000 in
theorem gX6_mendError_X6_at : GoodIn wsX6_mendError (va_wsS RX6 30 yX6_at wsX6_at) := goodIn_app (goodIn_of _ (by decide +kernel)) ggX6_mendError_X6_at
set_option maxRecDepth 20000 in
theorem ggX6_mendError_X6_spare : GoodIn wsX6_mendError wsX6_spare := goodIn_r _ [16, 1, 10, 11, 5, 12, 17, 18, 19, 20, 21, 22, 23, 24, 25, 26, 27, 28, 29] (by decide +kernel) (by decide +kernel)
set_option maxRecDepth 20000 in
theorem gX6_mendError_X6_spare : GoodIn wsX6_mendError (wsV RX6 67 RX6 yX6_spare wsX6_spare) := goodIn_app (goodIn_of _ (by decide +kernel)) ggX6_mendError_X6_spare
theorem dX6_mendError_0 : decode cX6_mendError 0 = .ok (.aload_n 0, 1) := by decide +kernel
theorem dX6_mendError_1 : decode cX6_mendError 1 = .ok (.iload_n 1, 1) := by decide +kernel
theorem dX6_mendError_2 : decode cX6_mendError 2 = .ok (.invokevirtual 59, 3) := by decide +kernel
theorem dX6_mendError_5 : decode cX6_mendError 5 = .ok (.ifCond .ne 7, 3) := by decide +kernel
theorem dX6_mendError_8 : decode cX6_mendError 8 = .ok (.iconst (-1), 1) := by decide +kernel
theorem dX6_mendError_9 : decode cX6_mendError 9 = .ok (.goto 39, 3) := by decide +kernel
theorem dX6_mendError_12 : decode cX6_mendError 12 = .ok (.aload_n 0, 1) := by decide +kernel
theorem dX6_mendError_13 : decode cX6_mendError 13 = .ok (.getfield 7, 3) := by decide +kernel
theorem dX6_mendError_16 : decode cX6_mendError 16 = .ok (.iconst 0, 1) := by decide +kernel
theorem dX6_mendError_17 : decode cX6_mendError 17 = .ok (.iload_n 1, 1) := by decide +kernel
theorem dX6_mendError_18 : decode cX6_mendError 18 = .ok (.invokestatic 30, 3) := by decide +kernel
theorem dX6_mendError_21 : decode cX6_mendError 21 = .ok (.bipush 6, 2) := by decide +kernel
theorem dX6_mendError_23 : decode cX6_mendError 23 = .ok (.iadd, 1) := by decide +kernel
theorem dX6_mendError_24 : decode cX6_mendError 24 = .ok (.iaload, 1) := by decide +kernel
theorem dX6_mendError_25 : decode cX6_mendError 25 = .ok (.iconst 1, 1) := by decide +kernel
theorem dX6_mendError_26 : decode cX6_mendError 26 = .ok (.if_icmp .ne 16, 3) := by decide +kernel
theorem dX6_mendError_29 : decode cX6_mendError 29 = .ok (.aload_n 0, 1) := by decide +kernel
theorem dX6_mendError_30 : decode cX6_mendError 30 = .ok (.getfield 7, 3) := by decide +kernel
theorem dX6_mendError_33 : decode cX6_mendError 33 = .ok (.aload_n 0, 1) := by decide +kernel
theorem dX6_mendError_34 : decode cX6_mendError 34 = .ok (.iload_n 1, 1) := by decide +kernel
theorem dX6_mendError_35 : decode cX6_mendError 35 = .ok (.invokevirtual 67, 3) := by decide +kernel
theorem dX6_mendError_38 : decode cX6_mendError 38 = .ok (.iaload, 1) := by decide +kernel
theorem dX6_mendError_39 : decode cX6_mendError 39 = .ok (.ifCond .ne 8, 3) := by decide +kernel
theorem dX6_mendError_42 : decode cX6_mendError 42 = .ok (.bipush (-4), 2) := by decide +kernel
theorem dX6_mendError_44 : decode cX6_mendError 44 = .ok (.goto 4, 3) := by decide +kernel
theorem dX6_mendError_47 : decode cX6_mendError 47 = .ok (.iconst 0, 1) := by decide +kernel
theorem dX6_mendError_48 : decode cX6_mendError 48 = .ok (.ireturn, 1) := by decide +kernel
set_option maxRecDepth 20000 in
theorem ggX6_stampError_X6_isConker : GoodIn wsX6_stampError wsX6_isConker := goodIn_r _ [6, 1, 7, 8, 5, 9, 13, 14, 15, 16, 17, 18, 19, 20, 21, 22, 23, 24, 25] (by decide +kernel) (by decide +kernel)
set_option maxRecDepth 20000 in
theorem gX6_stampError_X6_isConker : GoodIn wsX6_stampError (wsV RX6 59 RX6 yX6_isConker wsX6_isConker) := goodIn_app (goodIn_of _ (by decide +kernel)) ggX6_stampError_X6_isConker
set_option maxRecDepth 20000 in
theorem ggX6_stampError_X6_at : GoodIn wsX6_stampError wsX6_at := goodIn_r _ [12] (by decide +kernel) (by decide +kernel)
set_option maxRecDepth 20000 in
theorem gX6_stampError_X6_at : GoodIn wsX6_stampError (va_wsS RX6 30 yX6_at wsX6_at) := goodIn_app (goodIn_of _ (by decide +kernel)) ggX6_stampError_X6_at
theorem dX6_stampError_0 : decode cX6_stampError 0 = .ok (.aload_n 0, 1) := by decide +kernel
theorem dX6_stampError_1 : decode cX6_stampError 1 = .ok (.iload_n 1, 1) := by decide +kernel
theorem dX6_stampError_2 : decode cX6_stampError 2 = .ok (.invokevirtual 59, 3) := by decide +kernel
theorem dX6_stampError_5 : decode cX6_stampError 5 = .ok (.ifCond .ne 7, 3) := by decide +kernel
theorem dX6_stampError_8 : decode cX6_stampError 8 = .ok (.iconst (-1), 1) := by decide +kernel
theorem dX6_stampError_9 : decode cX6_stampError 9 = .ok (.goto 26, 3) := by decide +kernel
theorem dX6_stampError_12 : decode cX6_stampError 12 = .ok (.aload_n 0, 1) := by decide +kernel
theorem dX6_stampError_13 : decode cX6_stampError 13 = .ok (.getfield 7, 3) := by decide +kernel
theorem dX6_stampError_16 : decode cX6_stampError 16 = .ok (.iconst 0, 1) := by decide +kernel
theorem dX6_stampError_17 : decode cX6_stampError 17 = .ok (.iload_n 1, 1) := by decide +kernel
theorem dX6_stampError_18 : decode cX6_stampError 18 = .ok (.invokestatic 30, 3) := by decide +kernel
theorem dX6_stampError_21 : decode cX6_stampError 21 = .ok (.bipush 6, 2) := by decide +kernel
theorem dX6_stampError_23 : decode cX6_stampError 23 = .ok (.iadd, 1) := by decide +kernel
theorem dX6_stampError_24 : decode cX6_stampError 24 = .ok (.iaload, 1) := by decide +kernel
theorem dX6_stampError_25 : decode cX6_stampError 25 = .ok (.iconst 1, 1) := by decide +kernel
theorem dX6_stampError_26 : decode cX6_stampError 26 = .ok (.if_icmp .eq 8, 3) := by decide +kernel
theorem dX6_stampError_29 : decode cX6_stampError 29 = .ok (.bipush (-4), 2) := by decide +kernel
theorem dX6_stampError_31 : decode cX6_stampError 31 = .ok (.goto 4, 3) := by decide +kernel
theorem dX6_stampError_34 : decode cX6_stampError 34 = .ok (.iconst 0, 1) := by decide +kernel
theorem dX6_stampError_35 : decode cX6_stampError 35 = .ok (.ireturn, 1) := by decide +kernel
set_option maxRecDepth 20000 in
theorem ggX6_mends_X6_at : GoodIn wsX6_mends wsX6_at := goodIn_r _ [5] (by decide +kernel) (by decide +kernel)
set_option maxRecDepth 20000 in
theorem gX6_mends_X6_at : GoodIn wsX6_mends (va_wsS RX6 30 yX6_at wsX6_at) := goodIn_app (goodIn_of _ (by decide +kernel)) ggX6_mends_X6_at
set_option maxRecDepth 20000 in
theorem ggX6_mends_X6_spare : GoodIn wsX6_mends wsX6_spare := goodIn_r _ [9, 1, 2, 3, 4, 5, 10, 11, 12, 13, 14, 15, 16, 17, 18, 19, 20, 21, 22] (by decide +kernel) (by decide +kernel)
set_option maxRecDepth 20000 in
theorem gX6_mends_X6_spare : GoodIn wsX6_mends (wsV RX6 67 RX6 yX6_spare wsX6_spare) := goodIn_app (goodIn_of _ (by decide +kernel)) ggX6_mends_X6_spare
theorem dX6_mends_0 : decode cX6_mends 0 = .ok (.aload_n 0, 1) := by decide +kernel
theorem dX6_mends_1 : decode cX6_mends 1 = .ok (.getfield 7, 3) := by decide +kernel
theorem dX6_mends_4 : decode cX6_mends 4 = .ok (.iconst 0, 1) := by decide +kernel
theorem dX6_mends_5 : decode cX6_mends 5 = .ok (.iload_n 1, 1) := by decide +kernel
theorem dX6_mends_6 : decode cX6_mends 6 = .ok (.invokestatic 30, 3) := by decide +kernel
theorem dX6_mends_9 : decode cX6_mends 9 = .ok (.bipush 6, 2) := by decide +kernel
theorem dX6_mends_11 : decode cX6_mends 11 = .ok (.iadd, 1) := by decide +kernel
theorem dX6_mends_12 : decode cX6_mends 12 = .ok (.iconst 0, 1) := by decide +kernel
theorem dX6_mends_13 : decode cX6_mends 13 = .ok (.iastore, 1) := by decide +kernel
theorem dX6_mends_14 : decode cX6_mends 14 = .ok (.aload_n 0, 1) := by decide +kernel
theorem dX6_mends_15 : decode cX6_mends 15 = .ok (.getfield 7, 3) := by decide +kernel
theorem dX6_mends_18 : decode cX6_mends 18 = .ok (.iconst 0, 1) := by decide +kernel
theorem dX6_mends_19 : decode cX6_mends 19 = .ok (.iload_n 1, 1) := by decide +kernel
theorem dX6_mends_20 : decode cX6_mends 20 = .ok (.invokestatic 30, 3) := by decide +kernel
theorem dX6_mends_23 : decode cX6_mends 23 = .ok (.iconst 3, 1) := by decide +kernel
theorem dX6_mends_24 : decode cX6_mends 24 = .ok (.iadd, 1) := by decide +kernel
theorem dX6_mends_25 : decode cX6_mends 25 = .ok (.iconst 0, 1) := by decide +kernel
theorem dX6_mends_26 : decode cX6_mends 26 = .ok (.iastore, 1) := by decide +kernel
theorem dX6_mends_27 : decode cX6_mends 27 = .ok (.aload_n 0, 1) := by decide +kernel
theorem dX6_mends_28 : decode cX6_mends 28 = .ok (.getfield 7, 3) := by decide +kernel
theorem dX6_mends_31 : decode cX6_mends 31 = .ok (.aload_n 0, 1) := by decide +kernel
theorem dX6_mends_32 : decode cX6_mends 32 = .ok (.iload_n 1, 1) := by decide +kernel
theorem dX6_mends_33 : decode cX6_mends 33 = .ok (.invokevirtual 67, 3) := by decide +kernel
theorem dX6_mends_36 : decode cX6_mends 36 = .ok (.dup2, 1) := by decide +kernel
theorem dX6_mends_37 : decode cX6_mends 37 = .ok (.iaload, 1) := by decide +kernel
theorem dX6_mends_38 : decode cX6_mends 38 = .ok (.iconst 1, 1) := by decide +kernel
theorem dX6_mends_39 : decode cX6_mends 39 = .ok (.isub, 1) := by decide +kernel
theorem dX6_mends_40 : decode cX6_mends 40 = .ok (.iastore, 1) := by decide +kernel
theorem dX6_mends_41 : decode cX6_mends 41 = .ok (.aload_n 0, 1) := by decide +kernel
theorem dX6_mends_42 : decode cX6_mends 42 = .ok (.getfield 7, 3) := by decide +kernel
theorem dX6_mends_45 : decode cX6_mends 45 = .ok (.aload_n 0, 1) := by decide +kernel
theorem dX6_mends_46 : decode cX6_mends 46 = .ok (.iload_n 1, 1) := by decide +kernel
theorem dX6_mends_47 : decode cX6_mends 47 = .ok (.invokevirtual 67, 3) := by decide +kernel
theorem dX6_mends_50 : decode cX6_mends 50 = .ok (.iaload, 1) := by decide +kernel
theorem dX6_mends_51 : decode cX6_mends 51 = .ok (.ireturn, 1) := by decide +kernel
set_option maxRecDepth 20000 in
theorem ggX6_stamps_X6_at : GoodIn wsX6_stamps wsX6_at := goodIn_r _ [5] (by decide +kernel) (by decide +kernel)
set_option maxRecDepth 20000 in
theorem gX6_stamps_X6_at : GoodIn wsX6_stamps (va_wsS RX6 30 yX6_at wsX6_at) := goodIn_app (goodIn_of _ (by decide +kernel)) ggX6_stamps_X6_at
set_option maxRecDepth 20000 in
theorem ggX6_stamps_X6_smashes : GoodIn wsX6_stamps wsX6_smashes := goodIn_r _ [9, 1, 10, 11, 12, 13, 14, 15, 16, 17, 18, 19, 20, 21, 22] (by decide +kernel) (by decide +kernel)
set_option maxRecDepth 20000 in
theorem gX6_stamps_X6_smashes : GoodIn wsX6_stamps (wsV RX6 37 RX6 yX6_smashes wsX6_smashes) := goodIn_app (goodIn_of _ (by decide +kernel)) ggX6_stamps_X6_smashes
theorem dX6_stamps_0 : decode cX6_stamps 0 = .ok (.aload_n 0, 1) := by decide +kernel
theorem dX6_stamps_1 : decode cX6_stamps 1 = .ok (.getfield 7, 3) := by decide +kernel
theorem dX6_stamps_4 : decode cX6_stamps 4 = .ok (.iconst 0, 1) := by decide +kernel
theorem dX6_stamps_5 : decode cX6_stamps 5 = .ok (.iload_n 1, 1) := by decide +kernel
theorem dX6_stamps_6 : decode cX6_stamps 6 = .ok (.invokestatic 30, 3) := by decide +kernel
theorem dX6_stamps_9 : decode cX6_stamps 9 = .ok (.iconst 4, 1) := by decide +kernel
theorem dX6_stamps_10 : decode cX6_stamps 10 = .ok (.iadd, 1) := by decide +kernel
theorem dX6_stamps_11 : decode cX6_stamps 11 = .ok (.iaload, 1) := by decide +kernel
theorem dX6_stamps_12 : decode cX6_stamps 12 = .ok (.istore_n 2, 1) := by decide +kernel
theorem dX6_stamps_13 : decode cX6_stamps 13 = .ok (.aload_n 0, 1) := by decide +kernel
theorem dX6_stamps_14 : decode cX6_stamps 14 = .ok (.getfield 7, 3) := by decide +kernel
theorem dX6_stamps_17 : decode cX6_stamps 17 = .ok (.iconst 1, 1) := by decide +kernel
theorem dX6_stamps_18 : decode cX6_stamps 18 = .ok (.dup2, 1) := by decide +kernel
theorem dX6_stamps_19 : decode cX6_stamps 19 = .ok (.iaload, 1) := by decide +kernel
theorem dX6_stamps_20 : decode cX6_stamps 20 = .ok (.iload_n 2, 1) := by decide +kernel
theorem dX6_stamps_21 : decode cX6_stamps 21 = .ok (.iadd, 1) := by decide +kernel
theorem dX6_stamps_22 : decode cX6_stamps 22 = .ok (.iastore, 1) := by decide +kernel
theorem dX6_stamps_23 : decode cX6_stamps 23 = .ok (.aload_n 0, 1) := by decide +kernel
theorem dX6_stamps_24 : decode cX6_stamps 24 = .ok (.iconst 0, 1) := by decide +kernel
theorem dX6_stamps_25 : decode cX6_stamps 25 = .ok (.iload_n 1, 1) := by decide +kernel
theorem dX6_stamps_26 : decode cX6_stamps 26 = .ok (.invokestatic 30, 3) := by decide +kernel
theorem dX6_stamps_29 : decode cX6_stamps 29 = .ok (.bipush (-5), 2) := by decide +kernel
theorem dX6_stamps_31 : decode cX6_stamps 31 = .ok (.invokevirtual 37, 3) := by decide +kernel
theorem dX6_stamps_34 : decode cX6_stamps 34 = .ok (.iload_n 2, 1) := by decide +kernel
theorem dX6_stamps_35 : decode cX6_stamps 35 = .ok (.ireturn, 1) := by decide +kernel
set_option maxRecDepth 20000 in
theorem ggX6_thread_X6_isPlayer : GoodIn wsX6_thread wsX6_isPlayer := goodIn_r _ [5, 6, 7, 4, 8] (by decide +kernel) (by decide +kernel)
set_option maxRecDepth 20000 in
theorem gX6_thread_X6_isPlayer : GoodIn wsX6_thread (va_wsS RX6 71 yX6_isPlayer wsX6_isPlayer) := goodIn_app (goodIn_of _ (by decide +kernel)) ggX6_thread_X6_isPlayer
set_option maxRecDepth 20000 in
theorem ggX6_thread_X6_in : GoodIn wsX6_thread wsX6_in := goodIn_r _ [8] (by decide +kernel) (by decide +kernel)
set_option maxRecDepth 20000 in
theorem gX6_thread_X6_in : GoodIn wsX6_thread (va_wsS RX6 55 yX6_in wsX6_in) := goodIn_app (goodIn_of _ (by decide +kernel)) ggX6_thread_X6_in
set_option maxRecDepth 20000 in
theorem ggX6_thread_X6_records : GoodIn wsX6_thread wsX6_records := goodIn_r _ [12, 13, 14, 15, 16, 4, 17, 1, 21, 22, 23, 24, 25, 26, 27, 28, 29, 30, 31, 32, 33] (by decide +kernel) (by decide +kernel)
set_option maxRecDepth 20000 in
theorem gX6_thread_X6_records : GoodIn wsX6_thread (wsV RX6 74 RX6 yX6_records wsX6_records) := goodIn_app (goodIn_of _ (by decide +kernel)) ggX6_thread_X6_records
set_option maxRecDepth 20000 in
theorem ggX6_thread_X6_at : GoodIn wsX6_thread wsX6_at := goodIn_r _ [20] (by decide +kernel) (by decide +kernel)
set_option maxRecDepth 20000 in
theorem gX6_thread_X6_at : GoodIn wsX6_thread (va_wsS RX6 30 yX6_at wsX6_at) := goodIn_app (goodIn_of _ (by decide +kernel)) ggX6_thread_X6_at
theorem dX6_thread_0 : decode cX6_thread 0 = .ok (.iload_n 1, 1) := by decide +kernel
theorem dX6_thread_1 : decode cX6_thread 1 = .ok (.invokestatic 71, 3) := by decide +kernel
theorem dX6_thread_4 : decode cX6_thread 4 = .ok (.ifCond .ne 5, 3) := by decide +kernel
theorem dX6_thread_7 : decode cX6_thread 7 = .ok (.iconst (-1), 1) := by decide +kernel
theorem dX6_thread_8 : decode cX6_thread 8 = .ok (.ireturn, 1) := by decide +kernel
theorem dX6_thread_9 : decode cX6_thread 9 = .ok (.iload_n 2, 1) := by decide +kernel
theorem dX6_thread_10 : decode cX6_thread 10 = .ok (.iconst 1, 1) := by decide +kernel
theorem dX6_thread_11 : decode cX6_thread 11 = .ok (.bipush 9, 2) := by decide +kernel
theorem dX6_thread_13 : decode cX6_thread 13 = .ok (.invokestatic 55, 3) := by decide +kernel
theorem dX6_thread_16 : decode cX6_thread 16 = .ok (.ifCond .ne 6, 3) := by decide +kernel
theorem dX6_thread_19 : decode cX6_thread 19 = .ok (.bipush (-2), 2) := by decide +kernel
theorem dX6_thread_21 : decode cX6_thread 21 = .ok (.ireturn, 1) := by decide +kernel
theorem dX6_thread_22 : decode cX6_thread 22 = .ok (.aload_n 0, 1) := by decide +kernel
theorem dX6_thread_23 : decode cX6_thread 23 = .ok (.getfield 7, 3) := by decide +kernel
theorem dX6_thread_26 : decode cX6_thread 26 = .ok (.iconst 4, 1) := by decide +kernel
theorem dX6_thread_27 : decode cX6_thread 27 = .ok (.iconst 2, 1) := by decide +kernel
theorem dX6_thread_28 : decode cX6_thread 28 = .ok (.iload_n 1, 1) := by decide +kernel
theorem dX6_thread_29 : decode cX6_thread 29 = .ok (.imul, 1) := by decide +kernel
theorem dX6_thread_30 : decode cX6_thread 30 = .ok (.iadd, 1) := by decide +kernel
theorem dX6_thread_31 : decode cX6_thread 31 = .ok (.iaload, 1) := by decide +kernel
theorem dX6_thread_32 : decode cX6_thread 32 = .ok (.ifCond .ne 6, 3) := by decide +kernel
theorem dX6_thread_35 : decode cX6_thread 35 = .ok (.bipush (-4), 2) := by decide +kernel
theorem dX6_thread_37 : decode cX6_thread 37 = .ok (.ireturn, 1) := by decide +kernel
theorem dX6_thread_38 : decode cX6_thread 38 = .ok (.aload_n 0, 1) := by decide +kernel
theorem dX6_thread_39 : decode cX6_thread 39 = .ok (.getfield 7, 3) := by decide +kernel
theorem dX6_thread_42 : decode cX6_thread 42 = .ok (.iconst 0, 1) := by decide +kernel
theorem dX6_thread_43 : decode cX6_thread 43 = .ok (.iaload, 1) := by decide +kernel
theorem dX6_thread_44 : decode cX6_thread 44 = .ok (.bipush 30, 2) := by decide +kernel
theorem dX6_thread_46 : decode cX6_thread 46 = .ok (.if_icmp .ne 6, 3) := by decide +kernel
theorem dX6_thread_49 : decode cX6_thread 49 = .ok (.bipush (-3), 2) := by decide +kernel
theorem dX6_thread_51 : decode cX6_thread 51 = .ok (.ireturn, 1) := by decide +kernel
theorem dX6_thread_52 : decode cX6_thread 52 = .ok (.aload_n 0, 1) := by decide +kernel
theorem dX6_thread_53 : decode cX6_thread 53 = .ok (.invokevirtual 74, 3) := by decide +kernel
theorem dX6_thread_56 : decode cX6_thread 56 = .ok (.iconst 0, 1) := by decide +kernel
theorem dX6_thread_57 : decode cX6_thread 57 = .ok (.aload_n 0, 1) := by decide +kernel
theorem dX6_thread_58 : decode cX6_thread 58 = .ok (.getfield 7, 3) := by decide +kernel
theorem dX6_thread_61 : decode cX6_thread 61 = .ok (.iconst 0, 1) := by decide +kernel
theorem dX6_thread_62 : decode cX6_thread 62 = .ok (.iaload, 1) := by decide +kernel
theorem dX6_thread_63 : decode cX6_thread 63 = .ok (.invokestatic 30, 3) := by decide +kernel
theorem dX6_thread_66 : decode cX6_thread 66 = .ok (.istore_n 3, 1) := by decide +kernel
theorem dX6_thread_67 : decode cX6_thread 67 = .ok (.iconst 0, 1) := by decide +kernel
theorem dX6_thread_68 : decode cX6_thread 68 = .ok (.istore 4, 2) := by decide +kernel
theorem dX6_thread_70 : decode cX6_thread 70 = .ok (.iload 4, 2) := by decide +kernel
theorem dX6_thread_72 : decode cX6_thread 72 = .ok (.bipush 8, 2) := by decide +kernel
theorem dX6_thread_74 : decode cX6_thread 74 = .ok (.if_icmp .ge 56, 3) := by decide +kernel
theorem dX6_thread_77 : decode cX6_thread 77 = .ok (.aload_n 0, 1) := by decide +kernel
theorem dX6_thread_78 : decode cX6_thread 78 = .ok (.getfield 7, 3) := by decide +kernel
theorem dX6_thread_81 : decode cX6_thread 81 = .ok (.iload_n 3, 1) := by decide +kernel
theorem dX6_thread_82 : decode cX6_thread 82 = .ok (.iload 4, 2) := by decide +kernel
theorem dX6_thread_84 : decode cX6_thread 84 = .ok (.iadd, 1) := by decide +kernel
theorem dX6_thread_85 : decode cX6_thread 85 = .ok (.iload 4, 2) := by decide +kernel
theorem dX6_thread_87 : decode cX6_thread 87 = .ok (.ifCond .ne 7, 3) := by decide +kernel
theorem dX6_thread_90 : decode cX6_thread 90 = .ok (.iload_n 1, 1) := by decide +kernel
theorem dX6_thread_91 : decode cX6_thread 91 = .ok (.goto 32, 3) := by decide +kernel
theorem dX6_thread_94 : decode cX6_thread 94 = .ok (.iload 4, 2) := by decide +kernel
theorem dX6_thread_96 : decode cX6_thread 96 = .ok (.iconst 1, 1) := by decide +kernel
theorem dX6_thread_97 : decode cX6_thread 97 = .ok (.if_icmp .ne 7, 3) := by decide +kernel
theorem dX6_thread_100 : decode cX6_thread 100 = .ok (.iload_n 2, 1) := by decide +kernel
theorem dX6_thread_101 : decode cX6_thread 101 = .ok (.goto 22, 3) := by decide +kernel
theorem dX6_thread_104 : decode cX6_thread 104 = .ok (.iload 4, 2) := by decide +kernel
theorem dX6_thread_106 : decode cX6_thread 106 = .ok (.iconst 5, 1) := by decide +kernel
theorem dX6_thread_107 : decode cX6_thread 107 = .ok (.if_icmp .eq 10, 3) := by decide +kernel
theorem dX6_thread_110 : decode cX6_thread 110 = .ok (.iload 4, 2) := by decide +kernel
theorem dX6_thread_112 : decode cX6_thread 112 = .ok (.bipush 7, 2) := by decide +kernel
theorem dX6_thread_114 : decode cX6_thread 114 = .ok (.if_icmp .ne 8, 3) := by decide +kernel
theorem dX6_thread_117 : decode cX6_thread 117 = .ok (.bipush (-5), 2) := by decide +kernel
theorem dX6_thread_119 : decode cX6_thread 119 = .ok (.goto 4, 3) := by decide +kernel
theorem dX6_thread_122 : decode cX6_thread 122 = .ok (.iconst 0, 1) := by decide +kernel
theorem dX6_thread_123 : decode cX6_thread 123 = .ok (.iastore, 1) := by decide +kernel
theorem dX6_thread_124 : decode cX6_thread 124 = .ok (.iinc 4 1, 3) := by decide +kernel
theorem dX6_thread_127 : decode cX6_thread 127 = .ok (.goto (-57), 3) := by decide +kernel
theorem dX6_thread_130 : decode cX6_thread 130 = .ok (.aload_n 0, 1) := by decide +kernel
theorem dX6_thread_131 : decode cX6_thread 131 = .ok (.getfield 7, 3) := by decide +kernel
theorem dX6_thread_134 : decode cX6_thread 134 = .ok (.iconst 4, 1) := by decide +kernel
theorem dX6_thread_135 : decode cX6_thread 135 = .ok (.iconst 2, 1) := by decide +kernel
theorem dX6_thread_136 : decode cX6_thread 136 = .ok (.iload_n 1, 1) := by decide +kernel
theorem dX6_thread_137 : decode cX6_thread 137 = .ok (.imul, 1) := by decide +kernel
theorem dX6_thread_138 : decode cX6_thread 138 = .ok (.iadd, 1) := by decide +kernel
theorem dX6_thread_139 : decode cX6_thread 139 = .ok (.dup2, 1) := by decide +kernel
theorem dX6_thread_140 : decode cX6_thread 140 = .ok (.iaload, 1) := by decide +kernel
theorem dX6_thread_141 : decode cX6_thread 141 = .ok (.iconst 1, 1) := by decide +kernel
theorem dX6_thread_142 : decode cX6_thread 142 = .ok (.isub, 1) := by decide +kernel
theorem dX6_thread_143 : decode cX6_thread 143 = .ok (.iastore, 1) := by decide +kernel
theorem dX6_thread_144 : decode cX6_thread 144 = .ok (.aload_n 0, 1) := by decide +kernel
theorem dX6_thread_145 : decode cX6_thread 145 = .ok (.getfield 7, 3) := by decide +kernel
theorem dX6_thread_148 : decode cX6_thread 148 = .ok (.iconst 0, 1) := by decide +kernel
theorem dX6_thread_149 : decode cX6_thread 149 = .ok (.dup2, 1) := by decide +kernel
theorem dX6_thread_150 : decode cX6_thread 150 = .ok (.iaload, 1) := by decide +kernel
theorem dX6_thread_151 : decode cX6_thread 151 = .ok (.iconst 1, 1) := by decide +kernel
theorem dX6_thread_152 : decode cX6_thread 152 = .ok (.iadd, 1) := by decide +kernel
theorem dX6_thread_153 : decode cX6_thread 153 = .ok (.iastore, 1) := by decide +kernel
theorem dX6_thread_154 : decode cX6_thread 154 = .ok (.aload_n 0, 1) := by decide +kernel
theorem dX6_thread_155 : decode cX6_thread 155 = .ok (.getfield 7, 3) := by decide +kernel
theorem dX6_thread_158 : decode cX6_thread 158 = .ok (.iconst 0, 1) := by decide +kernel
theorem dX6_thread_159 : decode cX6_thread 159 = .ok (.iaload, 1) := by decide +kernel
theorem dX6_thread_160 : decode cX6_thread 160 = .ok (.iconst 1, 1) := by decide +kernel
theorem dX6_thread_161 : decode cX6_thread 161 = .ok (.isub, 1) := by decide +kernel
theorem dX6_thread_162 : decode cX6_thread 162 = .ok (.ireturn, 1) := by decide +kernel
set_option maxRecDepth 20000 in
theorem ggX6_give_X6_isPlayer : GoodIn wsX6_give wsX6_isPlayer := goodIn_r _ [5, 6, 7, 4, 8] (by decide +kernel) (by decide +kernel)
set_option maxRecDepth 20000 in
theorem gX6_give_X6_isPlayer : GoodIn wsX6_give (va_wsS RX6 71 yX6_isPlayer wsX6_isPlayer) := goodIn_app (goodIn_of _ (by decide +kernel)) ggX6_give_X6_isPlayer
set_option maxRecDepth 20000 in
theorem ggX6_give_X6_in : GoodIn wsX6_give wsX6_in := goodIn_r _ [8] (by decide +kernel) (by decide +kernel)
set_option maxRecDepth 20000 in
theorem gX6_give_X6_in : GoodIn wsX6_give (va_wsS RX6 55 yX6_in wsX6_in) := goodIn_app (goodIn_of _ (by decide +kernel)) ggX6_give_X6_in
set_option maxRecDepth 20000 in
theorem ggX6_give_X6_records : GoodIn wsX6_give wsX6_records := goodIn_r _ [12, 13, 14, 15, 16, 4, 17, 1, 18, 19, 20, 21, 22, 23, 24, 25, 26, 27, 28, 29, 30] (by decide +kernel) (by decide +kernel)
set_option maxRecDepth 20000 in
theorem gX6_give_X6_records : GoodIn wsX6_give (wsV RX6 74 RX6 yX6_records wsX6_records) := goodIn_app (goodIn_of _ (by decide +kernel)) ggX6_give_X6_records
theorem dX6_give_0 : decode cX6_give 0 = .ok (.iload_n 1, 1) := by decide +kernel
theorem dX6_give_1 : decode cX6_give 1 = .ok (.invokestatic 71, 3) := by decide +kernel
theorem dX6_give_4 : decode cX6_give 4 = .ok (.ifCond .ne 5, 3) := by decide +kernel
theorem dX6_give_7 : decode cX6_give 7 = .ok (.iconst (-1), 1) := by decide +kernel
theorem dX6_give_8 : decode cX6_give 8 = .ok (.ireturn, 1) := by decide +kernel
theorem dX6_give_9 : decode cX6_give 9 = .ok (.iload_n 2, 1) := by decide +kernel
theorem dX6_give_10 : decode cX6_give 10 = .ok (.iconst 1, 1) := by decide +kernel
theorem dX6_give_11 : decode cX6_give 11 = .ok (.bipush 9, 2) := by decide +kernel
theorem dX6_give_13 : decode cX6_give 13 = .ok (.invokestatic 55, 3) := by decide +kernel
theorem dX6_give_16 : decode cX6_give 16 = .ok (.ifCond .ne 6, 3) := by decide +kernel
theorem dX6_give_19 : decode cX6_give 19 = .ok (.bipush (-2), 2) := by decide +kernel
theorem dX6_give_21 : decode cX6_give 21 = .ok (.ireturn, 1) := by decide +kernel
theorem dX6_give_22 : decode cX6_give 22 = .ok (.aload_n 0, 1) := by decide +kernel
theorem dX6_give_23 : decode cX6_give 23 = .ok (.getfield 7, 3) := by decide +kernel
theorem dX6_give_26 : decode cX6_give 26 = .ok (.iconst 4, 1) := by decide +kernel
theorem dX6_give_27 : decode cX6_give 27 = .ok (.iconst 2, 1) := by decide +kernel
theorem dX6_give_28 : decode cX6_give 28 = .ok (.iload_n 1, 1) := by decide +kernel
theorem dX6_give_29 : decode cX6_give 29 = .ok (.imul, 1) := by decide +kernel
theorem dX6_give_30 : decode cX6_give 30 = .ok (.iadd, 1) := by decide +kernel
theorem dX6_give_31 : decode cX6_give 31 = .ok (.iaload, 1) := by decide +kernel
theorem dX6_give_32 : decode cX6_give 32 = .ok (.iload_n 2, 1) := by decide +kernel
theorem dX6_give_33 : decode cX6_give 33 = .ok (.iadd, 1) := by decide +kernel
theorem dX6_give_34 : decode cX6_give 34 = .ok (.bipush 20, 2) := by decide +kernel
theorem dX6_give_36 : decode cX6_give 36 = .ok (.if_icmp .le 6, 3) := by decide +kernel
theorem dX6_give_39 : decode cX6_give 39 = .ok (.bipush (-3), 2) := by decide +kernel
theorem dX6_give_41 : decode cX6_give 41 = .ok (.ireturn, 1) := by decide +kernel
theorem dX6_give_42 : decode cX6_give 42 = .ok (.aload_n 0, 1) := by decide +kernel
theorem dX6_give_43 : decode cX6_give 43 = .ok (.invokevirtual 74, 3) := by decide +kernel
theorem dX6_give_46 : decode cX6_give 46 = .ok (.aload_n 0, 1) := by decide +kernel
theorem dX6_give_47 : decode cX6_give 47 = .ok (.getfield 7, 3) := by decide +kernel
theorem dX6_give_50 : decode cX6_give 50 = .ok (.iconst 4, 1) := by decide +kernel
theorem dX6_give_51 : decode cX6_give 51 = .ok (.iconst 2, 1) := by decide +kernel
theorem dX6_give_52 : decode cX6_give 52 = .ok (.iload_n 1, 1) := by decide +kernel
theorem dX6_give_53 : decode cX6_give 53 = .ok (.imul, 1) := by decide +kernel
theorem dX6_give_54 : decode cX6_give 54 = .ok (.iadd, 1) := by decide +kernel
theorem dX6_give_55 : decode cX6_give 55 = .ok (.dup2, 1) := by decide +kernel
theorem dX6_give_56 : decode cX6_give 56 = .ok (.iaload, 1) := by decide +kernel
theorem dX6_give_57 : decode cX6_give 57 = .ok (.iload_n 2, 1) := by decide +kernel
theorem dX6_give_58 : decode cX6_give 58 = .ok (.iadd, 1) := by decide +kernel
theorem dX6_give_59 : decode cX6_give 59 = .ok (.iastore, 1) := by decide +kernel
theorem dX6_give_60 : decode cX6_give 60 = .ok (.aload_n 0, 1) := by decide +kernel
theorem dX6_give_61 : decode cX6_give 61 = .ok (.getfield 7, 3) := by decide +kernel
theorem dX6_give_64 : decode cX6_give 64 = .ok (.iconst 4, 1) := by decide +kernel
theorem dX6_give_65 : decode cX6_give 65 = .ok (.iconst 2, 1) := by decide +kernel
theorem dX6_give_66 : decode cX6_give 66 = .ok (.iload_n 1, 1) := by decide +kernel
theorem dX6_give_67 : decode cX6_give 67 = .ok (.imul, 1) := by decide +kernel
theorem dX6_give_68 : decode cX6_give 68 = .ok (.iadd, 1) := by decide +kernel
theorem dX6_give_69 : decode cX6_give 69 = .ok (.iaload, 1) := by decide +kernel
theorem dX6_give_70 : decode cX6_give 70 = .ok (.ireturn, 1) := by decide +kernel
set_option maxRecDepth 20000 in
theorem ggX6_strike_X6_strikeError : GoodIn wsX6_strike wsX6_strikeError := goodIn_r _ [5, 6, 7, 4, 8, 9, 10, 11, 12, 13, 14, 15, 16, 17, 18, 19, 20, 44, 45, 46, 47, 48, 49, 50, 51, 52, 53, 54, 55, 56] (by decide +kernel) (by decide +kernel)
set_option maxRecDepth 20000 in
theorem gX6_strike_X6_strikeError : GoodIn wsX6_strike (wsV RX6 77 RX6 yX6_strikeError wsX6_strikeError) := goodIn_app (goodIn_of _ (by decide +kernel)) ggX6_strike_X6_strikeError
set_option maxRecDepth 20000 in
theorem ggX6_strike_X6_records : GoodIn wsX6_strike wsX6_records := goodIn_r _ [24, 25, 26, 27, 28, 4, 29, 13, 44, 45, 46, 47, 48, 49, 50, 51, 52, 53, 54, 55, 56] (by decide +kernel) (by decide +kernel)
set_option maxRecDepth 20000 in
theorem gX6_strike_X6_records : GoodIn wsX6_strike (wsV RX6 74 RX6 yX6_records wsX6_records) := goodIn_app (goodIn_of _ (by decide +kernel)) ggX6_strike_X6_records
set_option maxRecDepth 20000 in
theorem ggX6_strike_X6_strikes : GoodIn wsX6_strike wsX6_strikes := goodIn_r _ [33, 13, 18, 19, 4, 20, 34, 35, 36, 37, 38, 39, 40, 41, 42, 43, 44, 45, 46, 47, 48, 49, 50, 51, 52, 53, 54, 55, 56] (by decide +kernel) (by decide +kernel)
set_option maxRecDepth 20000 in
theorem gX6_strike_X6_strikes : GoodIn wsX6_strike (wsV RX6 51 RX6 yX6_strikes wsX6_strikes) := goodIn_app (goodIn_of _ (by decide +kernel)) ggX6_strike_X6_strikes
theorem dX6_strike_0 : decode cX6_strike 0 = .ok (.aload_n 0, 1) := by decide +kernel
theorem dX6_strike_1 : decode cX6_strike 1 = .ok (.iload_n 1, 1) := by decide +kernel
theorem dX6_strike_2 : decode cX6_strike 2 = .ok (.iload_n 2, 1) := by decide +kernel
theorem dX6_strike_3 : decode cX6_strike 3 = .ok (.iload_n 3, 1) := by decide +kernel
theorem dX6_strike_4 : decode cX6_strike 4 = .ok (.invokevirtual 77, 3) := by decide +kernel
theorem dX6_strike_7 : decode cX6_strike 7 = .ok (.istore 4, 2) := by decide +kernel
theorem dX6_strike_9 : decode cX6_strike 9 = .ok (.iload 4, 2) := by decide +kernel
theorem dX6_strike_11 : decode cX6_strike 11 = .ok (.ifCond .eq 6, 3) := by decide +kernel
theorem dX6_strike_14 : decode cX6_strike 14 = .ok (.iload 4, 2) := by decide +kernel
theorem dX6_strike_16 : decode cX6_strike 16 = .ok (.ireturn, 1) := by decide +kernel
theorem dX6_strike_17 : decode cX6_strike 17 = .ok (.aload_n 0, 1) := by decide +kernel
theorem dX6_strike_18 : decode cX6_strike 18 = .ok (.invokevirtual 74, 3) := by decide +kernel
theorem dX6_strike_21 : decode cX6_strike 21 = .ok (.aload_n 0, 1) := by decide +kernel
theorem dX6_strike_22 : decode cX6_strike 22 = .ok (.iconst 0, 1) := by decide +kernel
theorem dX6_strike_23 : decode cX6_strike 23 = .ok (.iload_n 1, 1) := by decide +kernel
theorem dX6_strike_24 : decode cX6_strike 24 = .ok (.iload_n 2, 1) := by decide +kernel
theorem dX6_strike_25 : decode cX6_strike 25 = .ok (.iload_n 3, 1) := by decide +kernel
theorem dX6_strike_26 : decode cX6_strike 26 = .ok (.invokevirtual 51, 3) := by decide +kernel
theorem dX6_strike_29 : decode cX6_strike 29 = .ok (.ireturn, 1) := by decide +kernel
set_option maxRecDepth 20000 in
theorem ggX6_mend_X6_mendError : GoodIn wsX6_mend wsX6_mendError := goodIn_r _ [5, 6, 7, 8, 9, 4, 10, 11, 12, 13, 14, 15, 16, 17, 18, 19, 20, 34, 35, 36, 37, 38, 39, 40, 41, 42, 43, 44, 45, 46] (by decide +kernel) (by decide +kernel)
set_option maxRecDepth 20000 in
theorem gX6_mend_X6_mendError : GoodIn wsX6_mend (wsV RX6 81 RX6 yX6_mendError wsX6_mendError) := goodIn_app (goodIn_of _ (by decide +kernel)) ggX6_mend_X6_mendError
set_option maxRecDepth 20000 in
theorem ggX6_mend_X6_records : GoodIn wsX6_mend wsX6_records := goodIn_r _ [24, 25, 26, 27, 28, 4, 29, 6, 34, 35, 36, 37, 38, 39, 40, 41, 42, 43, 44, 45, 46] (by decide +kernel) (by decide +kernel)
set_option maxRecDepth 20000 in
theorem gX6_mend_X6_records : GoodIn wsX6_mend (wsV RX6 74 RX6 yX6_records wsX6_records) := goodIn_app (goodIn_of _ (by decide +kernel)) ggX6_mend_X6_records
set_option maxRecDepth 20000 in
theorem ggX6_mend_X6_mends : GoodIn wsX6_mend wsX6_mends := goodIn_r _ [33, 6, 14, 15, 4, 16, 17, 18, 19, 20, 34, 35, 36, 37, 38, 39, 40, 41, 42, 43, 44, 45, 46] (by decide +kernel) (by decide +kernel)
set_option maxRecDepth 20000 in
theorem gX6_mend_X6_mends : GoodIn wsX6_mend (wsV RX6 84 RX6 yX6_mends wsX6_mends) := goodIn_app (goodIn_of _ (by decide +kernel)) ggX6_mend_X6_mends
theorem dX6_mend_0 : decode cX6_mend 0 = .ok (.aload_n 0, 1) := by decide +kernel
theorem dX6_mend_1 : decode cX6_mend 1 = .ok (.iload_n 1, 1) := by decide +kernel
theorem dX6_mend_2 : decode cX6_mend 2 = .ok (.invokevirtual 81, 3) := by decide +kernel
theorem dX6_mend_5 : decode cX6_mend 5 = .ok (.istore_n 2, 1) := by decide +kernel
theorem dX6_mend_6 : decode cX6_mend 6 = .ok (.iload_n 2, 1) := by decide +kernel
theorem dX6_mend_7 : decode cX6_mend 7 = .ok (.ifCond .eq 5, 3) := by decide +kernel
theorem dX6_mend_10 : decode cX6_mend 10 = .ok (.iload_n 2, 1) := by decide +kernel
theorem dX6_mend_11 : decode cX6_mend 11 = .ok (.ireturn, 1) := by decide +kernel
theorem dX6_mend_12 : decode cX6_mend 12 = .ok (.aload_n 0, 1) := by decide +kernel
theorem dX6_mend_13 : decode cX6_mend 13 = .ok (.invokevirtual 74, 3) := by decide +kernel
theorem dX6_mend_16 : decode cX6_mend 16 = .ok (.aload_n 0, 1) := by decide +kernel
theorem dX6_mend_17 : decode cX6_mend 17 = .ok (.iload_n 1, 1) := by decide +kernel
theorem dX6_mend_18 : decode cX6_mend 18 = .ok (.invokevirtual 84, 3) := by decide +kernel
theorem dX6_mend_21 : decode cX6_mend 21 = .ok (.ireturn, 1) := by decide +kernel
set_option maxRecDepth 20000 in
theorem ggX6_stamp_X6_stampError : GoodIn wsX6_stamp wsX6_stampError := goodIn_r _ [5, 6, 7, 8, 9, 4, 10, 11, 12, 13, 14, 15, 16, 34, 35, 36, 37, 38, 39, 40, 41, 42, 43, 44, 45, 46] (by decide +kernel) (by decide +kernel)
set_option maxRecDepth 20000 in
theorem gX6_stamp_X6_stampError : GoodIn wsX6_stamp (wsV RX6 87 RX6 yX6_stampError wsX6_stampError) := goodIn_app (goodIn_of _ (by decide +kernel)) ggX6_stamp_X6_stampError
set_option maxRecDepth 20000 in
theorem ggX6_stamp_X6_records : GoodIn wsX6_stamp wsX6_records := goodIn_r _ [20, 21, 22, 23, 24, 4, 25, 6, 34, 35, 36, 37, 38, 39, 40, 41, 42, 43, 44, 45, 46] (by decide +kernel) (by decide +kernel)
set_option maxRecDepth 20000 in
theorem gX6_stamp_X6_records : GoodIn wsX6_stamp (wsV RX6 74 RX6 yX6_records wsX6_records) := goodIn_app (goodIn_of _ (by decide +kernel)) ggX6_stamp_X6_records
set_option maxRecDepth 20000 in
theorem ggX6_stamp_X6_stamps : GoodIn wsX6_stamp wsX6_stamps := goodIn_r _ [29, 6, 14, 15, 4, 16, 30, 31, 32, 33, 34, 35, 36, 37, 38, 39, 40, 41, 42, 43, 44, 45, 46] (by decide +kernel) (by decide +kernel)
set_option maxRecDepth 20000 in
theorem gX6_stamp_X6_stamps : GoodIn wsX6_stamp (wsV RX6 90 RX6 yX6_stamps wsX6_stamps) := goodIn_app (goodIn_of _ (by decide +kernel)) ggX6_stamp_X6_stamps
theorem dX6_stamp_0 : decode cX6_stamp 0 = .ok (.aload_n 0, 1) := by decide +kernel
theorem dX6_stamp_1 : decode cX6_stamp 1 = .ok (.iload_n 1, 1) := by decide +kernel
theorem dX6_stamp_2 : decode cX6_stamp 2 = .ok (.invokevirtual 87, 3) := by decide +kernel
theorem dX6_stamp_5 : decode cX6_stamp 5 = .ok (.istore_n 2, 1) := by decide +kernel
theorem dX6_stamp_6 : decode cX6_stamp 6 = .ok (.iload_n 2, 1) := by decide +kernel
theorem dX6_stamp_7 : decode cX6_stamp 7 = .ok (.ifCond .eq 5, 3) := by decide +kernel
theorem dX6_stamp_10 : decode cX6_stamp 10 = .ok (.iload_n 2, 1) := by decide +kernel
theorem dX6_stamp_11 : decode cX6_stamp 11 = .ok (.ireturn, 1) := by decide +kernel
theorem dX6_stamp_12 : decode cX6_stamp 12 = .ok (.aload_n 0, 1) := by decide +kernel
theorem dX6_stamp_13 : decode cX6_stamp 13 = .ok (.invokevirtual 74, 3) := by decide +kernel
theorem dX6_stamp_16 : decode cX6_stamp 16 = .ok (.aload_n 0, 1) := by decide +kernel
theorem dX6_stamp_17 : decode cX6_stamp 17 = .ok (.iload_n 1, 1) := by decide +kernel
theorem dX6_stamp_18 : decode cX6_stamp 18 = .ok (.invokevirtual 90, 3) := by decide +kernel
theorem dX6_stamp_21 : decode cX6_stamp 21 = .ok (.ireturn, 1) := by decide +kernel
set_option maxRecDepth 20000 in
theorem ggX6_boast_X6_isConker : GoodIn wsX6_boast wsX6_isConker := goodIn_r _ [6, 1, 7, 8, 5, 9, 22, 23, 24, 25, 26, 27, 28, 29, 30, 31, 32, 33, 34] (by decide +kernel) (by decide +kernel)
set_option maxRecDepth 20000 in
theorem gX6_boast_X6_isConker : GoodIn wsX6_boast (wsV RX6 59 RX6 yX6_isConker wsX6_isConker) := goodIn_app (goodIn_of _ (by decide +kernel)) ggX6_boast_X6_isConker
set_option maxRecDepth 20000 in
theorem ggX6_boast_X6_in : GoodIn wsX6_boast wsX6_in := goodIn_r _ [9] (by decide +kernel) (by decide +kernel)
set_option maxRecDepth 20000 in
theorem gX6_boast_X6_in : GoodIn wsX6_boast (va_wsS RX6 55 yX6_in wsX6_in) := goodIn_app (goodIn_of _ (by decide +kernel)) ggX6_boast_X6_in
set_option maxRecDepth 20000 in
theorem ggX6_boast_X6_at : GoodIn wsX6_boast wsX6_at := goodIn_r _ [12] (by decide +kernel) (by decide +kernel)
set_option maxRecDepth 20000 in
theorem gX6_boast_X6_at : GoodIn wsX6_boast (va_wsS RX6 30 yX6_at wsX6_at) := goodIn_app (goodIn_of _ (by decide +kernel)) ggX6_boast_X6_at
set_option maxRecDepth 20000 in
theorem ggX6_boast_X6_records : GoodIn wsX6_boast wsX6_records := goodIn_r _ [16, 17, 18, 19, 20, 5, 21, 1, 22, 23, 24, 25, 26, 27, 28, 29, 30, 31, 32, 33, 34] (by decide +kernel) (by decide +kernel)
set_option maxRecDepth 20000 in
theorem gX6_boast_X6_records : GoodIn wsX6_boast (wsV RX6 74 RX6 yX6_records wsX6_records) := goodIn_app (goodIn_of _ (by decide +kernel)) ggX6_boast_X6_records
theorem dX6_boast_0 : decode cX6_boast 0 = .ok (.aload_n 0, 1) := by decide +kernel
theorem dX6_boast_1 : decode cX6_boast 1 = .ok (.iload_n 1, 1) := by decide +kernel
theorem dX6_boast_2 : decode cX6_boast 2 = .ok (.invokevirtual 59, 3) := by decide +kernel
theorem dX6_boast_5 : decode cX6_boast 5 = .ok (.ifCond .ne 5, 3) := by decide +kernel
theorem dX6_boast_8 : decode cX6_boast 8 = .ok (.iconst (-1), 1) := by decide +kernel
theorem dX6_boast_9 : decode cX6_boast 9 = .ok (.ireturn, 1) := by decide +kernel
theorem dX6_boast_10 : decode cX6_boast 10 = .ok (.iload_n 2, 1) := by decide +kernel
theorem dX6_boast_11 : decode cX6_boast 11 = .ok (.iconst 0, 1) := by decide +kernel
theorem dX6_boast_12 : decode cX6_boast 12 = .ok (.bipush 99, 2) := by decide +kernel
theorem dX6_boast_14 : decode cX6_boast 14 = .ok (.invokestatic 55, 3) := by decide +kernel
theorem dX6_boast_17 : decode cX6_boast 17 = .ok (.ifCond .ne 6, 3) := by decide +kernel
theorem dX6_boast_20 : decode cX6_boast 20 = .ok (.bipush (-2), 2) := by decide +kernel
theorem dX6_boast_22 : decode cX6_boast 22 = .ok (.ireturn, 1) := by decide +kernel
theorem dX6_boast_23 : decode cX6_boast 23 = .ok (.iconst 0, 1) := by decide +kernel
theorem dX6_boast_24 : decode cX6_boast 24 = .ok (.iload_n 1, 1) := by decide +kernel
theorem dX6_boast_25 : decode cX6_boast 25 = .ok (.invokestatic 30, 3) := by decide +kernel
theorem dX6_boast_28 : decode cX6_boast 28 = .ok (.istore_n 3, 1) := by decide +kernel
theorem dX6_boast_29 : decode cX6_boast 29 = .ok (.aload_n 0, 1) := by decide +kernel
theorem dX6_boast_30 : decode cX6_boast 30 = .ok (.getfield 7, 3) := by decide +kernel
theorem dX6_boast_33 : decode cX6_boast 33 = .ok (.iload_n 3, 1) := by decide +kernel
theorem dX6_boast_34 : decode cX6_boast 34 = .ok (.bipush 6, 2) := by decide +kernel
theorem dX6_boast_36 : decode cX6_boast 36 = .ok (.iadd, 1) := by decide +kernel
theorem dX6_boast_37 : decode cX6_boast 37 = .ok (.iaload, 1) := by decide +kernel
theorem dX6_boast_38 : decode cX6_boast 38 = .ok (.iconst 2, 1) := by decide +kernel
theorem dX6_boast_39 : decode cX6_boast 39 = .ok (.if_icmp .ne 6, 3) := by decide +kernel
theorem dX6_boast_42 : decode cX6_boast 42 = .ok (.bipush (-4), 2) := by decide +kernel
theorem dX6_boast_44 : decode cX6_boast 44 = .ok (.ireturn, 1) := by decide +kernel
theorem dX6_boast_45 : decode cX6_boast 45 = .ok (.aload_n 0, 1) := by decide +kernel
theorem dX6_boast_46 : decode cX6_boast 46 = .ok (.invokevirtual 74, 3) := by decide +kernel
theorem dX6_boast_49 : decode cX6_boast 49 = .ok (.aload_n 0, 1) := by decide +kernel
theorem dX6_boast_50 : decode cX6_boast 50 = .ok (.getfield 7, 3) := by decide +kernel
theorem dX6_boast_53 : decode cX6_boast 53 = .ok (.iload_n 3, 1) := by decide +kernel
theorem dX6_boast_54 : decode cX6_boast 54 = .ok (.iconst 5, 1) := by decide +kernel
theorem dX6_boast_55 : decode cX6_boast 55 = .ok (.iadd, 1) := by decide +kernel
theorem dX6_boast_56 : decode cX6_boast 56 = .ok (.iaload, 1) := by decide +kernel
theorem dX6_boast_57 : decode cX6_boast 57 = .ok (.istore 4, 2) := by decide +kernel
theorem dX6_boast_59 : decode cX6_boast 59 = .ok (.aload_n 0, 1) := by decide +kernel
theorem dX6_boast_60 : decode cX6_boast 60 = .ok (.getfield 7, 3) := by decide +kernel
theorem dX6_boast_63 : decode cX6_boast 63 = .ok (.iload_n 3, 1) := by decide +kernel
theorem dX6_boast_64 : decode cX6_boast 64 = .ok (.iconst 5, 1) := by decide +kernel
theorem dX6_boast_65 : decode cX6_boast 65 = .ok (.iadd, 1) := by decide +kernel
theorem dX6_boast_66 : decode cX6_boast 66 = .ok (.iload_n 2, 1) := by decide +kernel
theorem dX6_boast_67 : decode cX6_boast 67 = .ok (.iastore, 1) := by decide +kernel
theorem dX6_boast_68 : decode cX6_boast 68 = .ok (.iload 4, 2) := by decide +kernel
theorem dX6_boast_70 : decode cX6_boast 70 = .ok (.ireturn, 1) := by decide +kernel
set_option maxRecDepth 20000 in
theorem ggX6_doubt_X6_isPlayer : GoodIn wsX6_doubt wsX6_isPlayer := goodIn_r _ [5, 6, 7, 4, 8] (by decide +kernel) (by decide +kernel)
set_option maxRecDepth 20000 in
theorem gX6_doubt_X6_isPlayer : GoodIn wsX6_doubt (va_wsS RX6 71 yX6_isPlayer wsX6_isPlayer) := goodIn_app (goodIn_of _ (by decide +kernel)) ggX6_doubt_X6_isPlayer
set_option maxRecDepth 20000 in
theorem ggX6_doubt_X6_isConker : GoodIn wsX6_doubt wsX6_isConker := goodIn_r _ [12, 1, 6, 7, 4, 8, 25, 26, 27, 28, 29, 30, 31, 32, 33, 34, 35, 36, 37] (by decide +kernel) (by decide +kernel)
set_option maxRecDepth 20000 in
theorem gX6_doubt_X6_isConker : GoodIn wsX6_doubt (wsV RX6 59 RX6 yX6_isConker wsX6_isConker) := goodIn_app (goodIn_of _ (by decide +kernel)) ggX6_doubt_X6_isConker
set_option maxRecDepth 20000 in
theorem ggX6_doubt_X6_at : GoodIn wsX6_doubt wsX6_at := goodIn_r _ [15] (by decide +kernel) (by decide +kernel)
set_option maxRecDepth 20000 in
theorem gX6_doubt_X6_at : GoodIn wsX6_doubt (va_wsS RX6 30 yX6_at wsX6_at) := goodIn_app (goodIn_of _ (by decide +kernel)) ggX6_doubt_X6_at
set_option maxRecDepth 20000 in
theorem ggX6_doubt_X6_records : GoodIn wsX6_doubt wsX6_records := goodIn_r _ [19, 20, 21, 22, 23, 4, 24, 1, 25, 26, 27, 28, 29, 30, 31, 32, 33, 34, 35, 36, 37] (by decide +kernel) (by decide +kernel)
set_option maxRecDepth 20000 in
theorem gX6_doubt_X6_records : GoodIn wsX6_doubt (wsV RX6 74 RX6 yX6_records wsX6_records) := goodIn_app (goodIn_of _ (by decide +kernel)) ggX6_doubt_X6_records
theorem dX6_doubt_0 : decode cX6_doubt 0 = .ok (.iload_n 1, 1) := by decide +kernel
theorem dX6_doubt_1 : decode cX6_doubt 1 = .ok (.invokestatic 71, 3) := by decide +kernel
theorem dX6_doubt_4 : decode cX6_doubt 4 = .ok (.ifCond .eq 11, 3) := by decide +kernel
theorem dX6_doubt_7 : decode cX6_doubt 7 = .ok (.aload_n 0, 1) := by decide +kernel
theorem dX6_doubt_8 : decode cX6_doubt 8 = .ok (.iload_n 2, 1) := by decide +kernel
theorem dX6_doubt_9 : decode cX6_doubt 9 = .ok (.invokevirtual 59, 3) := by decide +kernel
theorem dX6_doubt_12 : decode cX6_doubt 12 = .ok (.ifCond .ne 5, 3) := by decide +kernel
theorem dX6_doubt_15 : decode cX6_doubt 15 = .ok (.iconst (-1), 1) := by decide +kernel
theorem dX6_doubt_16 : decode cX6_doubt 16 = .ok (.ireturn, 1) := by decide +kernel
theorem dX6_doubt_17 : decode cX6_doubt 17 = .ok (.iconst 0, 1) := by decide +kernel
theorem dX6_doubt_18 : decode cX6_doubt 18 = .ok (.iload_n 2, 1) := by decide +kernel
theorem dX6_doubt_19 : decode cX6_doubt 19 = .ok (.invokestatic 30, 3) := by decide +kernel
theorem dX6_doubt_22 : decode cX6_doubt 22 = .ok (.istore_n 3, 1) := by decide +kernel
theorem dX6_doubt_23 : decode cX6_doubt 23 = .ok (.aload_n 0, 1) := by decide +kernel
theorem dX6_doubt_24 : decode cX6_doubt 24 = .ok (.getfield 7, 3) := by decide +kernel
theorem dX6_doubt_27 : decode cX6_doubt 27 = .ok (.iload_n 3, 1) := by decide +kernel
theorem dX6_doubt_28 : decode cX6_doubt 28 = .ok (.iaload, 1) := by decide +kernel
theorem dX6_doubt_29 : decode cX6_doubt 29 = .ok (.iload_n 1, 1) := by decide +kernel
theorem dX6_doubt_30 : decode cX6_doubt 30 = .ok (.if_icmp .ne 6, 3) := by decide +kernel
theorem dX6_doubt_33 : decode cX6_doubt 33 = .ok (.bipush (-2), 2) := by decide +kernel
theorem dX6_doubt_35 : decode cX6_doubt 35 = .ok (.ireturn, 1) := by decide +kernel
theorem dX6_doubt_36 : decode cX6_doubt 36 = .ok (.aload_n 0, 1) := by decide +kernel
theorem dX6_doubt_37 : decode cX6_doubt 37 = .ok (.getfield 7, 3) := by decide +kernel
theorem dX6_doubt_40 : decode cX6_doubt 40 = .ok (.iload_n 3, 1) := by decide +kernel
theorem dX6_doubt_41 : decode cX6_doubt 41 = .ok (.iconst 5, 1) := by decide +kernel
theorem dX6_doubt_42 : decode cX6_doubt 42 = .ok (.iadd, 1) := by decide +kernel
theorem dX6_doubt_43 : decode cX6_doubt 43 = .ok (.iaload, 1) := by decide +kernel
theorem dX6_doubt_44 : decode cX6_doubt 44 = .ok (.bipush (-5), 2) := by decide +kernel
theorem dX6_doubt_46 : decode cX6_doubt 46 = .ok (.if_icmp .ne 6, 3) := by decide +kernel
theorem dX6_doubt_49 : decode cX6_doubt 49 = .ok (.bipush (-4), 2) := by decide +kernel
theorem dX6_doubt_51 : decode cX6_doubt 51 = .ok (.ireturn, 1) := by decide +kernel
theorem dX6_doubt_52 : decode cX6_doubt 52 = .ok (.aload_n 0, 1) := by decide +kernel
theorem dX6_doubt_53 : decode cX6_doubt 53 = .ok (.invokevirtual 74, 3) := by decide +kernel
theorem dX6_doubt_56 : decode cX6_doubt 56 = .ok (.aload_n 0, 1) := by decide +kernel
theorem dX6_doubt_57 : decode cX6_doubt 57 = .ok (.getfield 7, 3) := by decide +kernel
theorem dX6_doubt_60 : decode cX6_doubt 60 = .ok (.iload_n 3, 1) := by decide +kernel
theorem dX6_doubt_61 : decode cX6_doubt 61 = .ok (.iconst 5, 1) := by decide +kernel
theorem dX6_doubt_62 : decode cX6_doubt 62 = .ok (.iadd, 1) := by decide +kernel
theorem dX6_doubt_63 : decode cX6_doubt 63 = .ok (.iaload, 1) := by decide +kernel
theorem dX6_doubt_64 : decode cX6_doubt 64 = .ok (.aload_n 0, 1) := by decide +kernel
theorem dX6_doubt_65 : decode cX6_doubt 65 = .ok (.getfield 7, 3) := by decide +kernel
theorem dX6_doubt_68 : decode cX6_doubt 68 = .ok (.iload_n 3, 1) := by decide +kernel
theorem dX6_doubt_69 : decode cX6_doubt 69 = .ok (.iconst 4, 1) := by decide +kernel
theorem dX6_doubt_70 : decode cX6_doubt 70 = .ok (.iadd, 1) := by decide +kernel
theorem dX6_doubt_71 : decode cX6_doubt 71 = .ok (.iaload, 1) := by decide +kernel
theorem dX6_doubt_72 : decode cX6_doubt 72 = .ok (.if_icmp .le 12, 3) := by decide +kernel
theorem dX6_doubt_75 : decode cX6_doubt 75 = .ok (.aload_n 0, 1) := by decide +kernel
theorem dX6_doubt_76 : decode cX6_doubt 76 = .ok (.getfield 7, 3) := by decide +kernel
theorem dX6_doubt_79 : decode cX6_doubt 79 = .ok (.iload_n 3, 1) := by decide +kernel
theorem dX6_doubt_80 : decode cX6_doubt 80 = .ok (.iaload, 1) := by decide +kernel
theorem dX6_doubt_81 : decode cX6_doubt 81 = .ok (.goto 4, 3) := by decide +kernel
theorem dX6_doubt_84 : decode cX6_doubt 84 = .ok (.iload_n 1, 1) := by decide +kernel
theorem dX6_doubt_85 : decode cX6_doubt 85 = .ok (.istore 4, 2) := by decide +kernel
theorem dX6_doubt_87 : decode cX6_doubt 87 = .ok (.aload_n 0, 1) := by decide +kernel
theorem dX6_doubt_88 : decode cX6_doubt 88 = .ok (.getfield 7, 3) := by decide +kernel
theorem dX6_doubt_91 : decode cX6_doubt 91 = .ok (.iconst 4, 1) := by decide +kernel
theorem dX6_doubt_92 : decode cX6_doubt 92 = .ok (.iconst 2, 1) := by decide +kernel
theorem dX6_doubt_93 : decode cX6_doubt 93 = .ok (.iload 4, 2) := by decide +kernel
theorem dX6_doubt_95 : decode cX6_doubt 95 = .ok (.imul, 1) := by decide +kernel
theorem dX6_doubt_96 : decode cX6_doubt 96 = .ok (.iadd, 1) := by decide +kernel
theorem dX6_doubt_97 : decode cX6_doubt 97 = .ok (.iconst 1, 1) := by decide +kernel
theorem dX6_doubt_98 : decode cX6_doubt 98 = .ok (.iadd, 1) := by decide +kernel
theorem dX6_doubt_99 : decode cX6_doubt 99 = .ok (.dup2, 1) := by decide +kernel
theorem dX6_doubt_100 : decode cX6_doubt 100 = .ok (.iaload, 1) := by decide +kernel
theorem dX6_doubt_101 : decode cX6_doubt 101 = .ok (.iconst 1, 1) := by decide +kernel
theorem dX6_doubt_102 : decode cX6_doubt 102 = .ok (.iadd, 1) := by decide +kernel
theorem dX6_doubt_103 : decode cX6_doubt 103 = .ok (.iastore, 1) := by decide +kernel
theorem dX6_doubt_104 : decode cX6_doubt 104 = .ok (.aload_n 0, 1) := by decide +kernel
theorem dX6_doubt_105 : decode cX6_doubt 105 = .ok (.getfield 7, 3) := by decide +kernel
theorem dX6_doubt_108 : decode cX6_doubt 108 = .ok (.iload_n 3, 1) := by decide +kernel
theorem dX6_doubt_109 : decode cX6_doubt 109 = .ok (.iconst 5, 1) := by decide +kernel
theorem dX6_doubt_110 : decode cX6_doubt 110 = .ok (.iadd, 1) := by decide +kernel
theorem dX6_doubt_111 : decode cX6_doubt 111 = .ok (.bipush (-5), 2) := by decide +kernel
theorem dX6_doubt_113 : decode cX6_doubt 113 = .ok (.iastore, 1) := by decide +kernel
theorem dX6_doubt_114 : decode cX6_doubt 114 = .ok (.iload 4, 2) := by decide +kernel
theorem dX6_doubt_116 : decode cX6_doubt 116 = .ok (.ireturn, 1) := by decide +kernel
set_option maxRecDepth 20000 in
theorem ggX6_boutError_X6_in : GoodIn wsX6_boutError wsX6_in := goodIn_r _ [5] (by decide +kernel) (by decide +kernel)
set_option maxRecDepth 20000 in
theorem gX6_boutError_X6_in : GoodIn wsX6_boutError (va_wsS RX6 55 yX6_in wsX6_in) := goodIn_app (goodIn_of _ (by decide +kernel)) ggX6_boutError_X6_in
set_option maxRecDepth 20000 in
theorem ggX6_boutError_X6_pairError : GoodIn wsX6_boutError wsX6_pairError := goodIn_r _ [9, 10, 11, 12, 13, 4, 14, 2, 3, 5, 15, 16, 17, 18, 19, 20, 21, 22, 23, 24, 25, 26, 27, 28, 29, 30] (by decide +kernel) (by decide +kernel)
set_option maxRecDepth 20000 in
theorem gX6_boutError_X6_pairError : GoodIn wsX6_boutError (wsV RX6 63 RX6 yX6_pairError wsX6_pairError) := goodIn_app (goodIn_of _ (by decide +kernel)) ggX6_boutError_X6_pairError
theorem dX6_boutError_0 : decode cX6_boutError 0 = .ok (.aload_n 0, 1) := by decide +kernel
theorem dX6_boutError_1 : decode cX6_boutError 1 = .ok (.iload_n 1, 1) := by decide +kernel
theorem dX6_boutError_2 : decode cX6_boutError 2 = .ok (.iload_n 2, 1) := by decide +kernel
theorem dX6_boutError_3 : decode cX6_boutError 3 = .ok (.iload_n 3, 1) := by decide +kernel
theorem dX6_boutError_4 : decode cX6_boutError 4 = .ok (.iconst 0, 1) := by decide +kernel
theorem dX6_boutError_5 : decode cX6_boutError 5 = .ok (.ldc 93, 2) := by decide +kernel
theorem dX6_boutError_7 : decode cX6_boutError 7 = .ok (.invokestatic 55, 3) := by decide +kernel
theorem dX6_boutError_10 : decode cX6_boutError 10 = .ok (.invokevirtual 63, 3) := by decide +kernel
theorem dX6_boutError_13 : decode cX6_boutError 13 = .ok (.ireturn, 1) := by decide +kernel
set_option maxRecDepth 20000 in
theorem ggX6_bout_X6_boutError : GoodIn wsX6_bout wsX6_boutError := goodIn_r _ [6, 7, 8, 9, 5, 10, 11, 12, 13, 14, 15, 16, 17, 18, 19, 20, 21, 22, 55, 56, 57, 58, 59, 60, 61, 62, 63, 64, 65, 66, 67] (by decide +kernel) (by decide +kernel)
set_option maxRecDepth 20000 in
theorem gX6_bout_X6_boutError : GoodIn wsX6_bout (wsV RX6 94 RX6 yX6_boutError wsX6_boutError) := goodIn_app (goodIn_of _ (by decide +kernel)) ggX6_bout_X6_boutError
set_option maxRecDepth 20000 in
theorem ggX6_bout_X6_records : GoodIn wsX6_bout wsX6_records := goodIn_r _ [26, 27, 28, 29, 30, 5, 31, 15, 55, 56, 57, 58, 59, 60, 61, 62, 63, 64, 65, 66, 67] (by decide +kernel) (by decide +kernel)
set_option maxRecDepth 20000 in
theorem gX6_bout_X6_records : GoodIn wsX6_bout (wsV RX6 74 RX6 yX6_records wsX6_records) := goodIn_app (goodIn_of _ (by decide +kernel)) ggX6_bout_X6_records
set_option maxRecDepth 20000 in
theorem ggX6_bout_X6_fights : GoodIn wsX6_bout wsX6_fights := goodIn_r _ [35, 15, 1, 36, 37, 5, 38, 20, 21, 22, 39, 40, 41, 42, 43, 44, 45, 46, 47, 48, 49, 50, 51, 52, 53, 54, 55, 56, 57, 58, 59, 60, 61, 62, 63, 64, 65, 66, 67] (by decide +kernel) (by decide +kernel)
set_option maxRecDepth 20000 in
theorem gX6_bout_X6_fights : GoodIn wsX6_bout (wsV RX6 97 RX6 yX6_fights wsX6_fights) := goodIn_app (goodIn_of _ (by decide +kernel)) ggX6_bout_X6_fights
theorem dX6_bout_0 : decode cX6_bout 0 = .ok (.aload_n 0, 1) := by decide +kernel
theorem dX6_bout_1 : decode cX6_bout 1 = .ok (.iload_n 1, 1) := by decide +kernel
theorem dX6_bout_2 : decode cX6_bout 2 = .ok (.iload_n 2, 1) := by decide +kernel
theorem dX6_bout_3 : decode cX6_bout 3 = .ok (.iload_n 3, 1) := by decide +kernel
theorem dX6_bout_4 : decode cX6_bout 4 = .ok (.invokevirtual 94, 3) := by decide +kernel
theorem dX6_bout_7 : decode cX6_bout 7 = .ok (.istore 4, 2) := by decide +kernel
theorem dX6_bout_9 : decode cX6_bout 9 = .ok (.iload 4, 2) := by decide +kernel
theorem dX6_bout_11 : decode cX6_bout 11 = .ok (.ifCond .eq 6, 3) := by decide +kernel
theorem dX6_bout_14 : decode cX6_bout 14 = .ok (.iload 4, 2) := by decide +kernel
theorem dX6_bout_16 : decode cX6_bout 16 = .ok (.ireturn, 1) := by decide +kernel
theorem dX6_bout_17 : decode cX6_bout 17 = .ok (.aload_n 0, 1) := by decide +kernel
theorem dX6_bout_18 : decode cX6_bout 18 = .ok (.invokevirtual 74, 3) := by decide +kernel
theorem dX6_bout_21 : decode cX6_bout 21 = .ok (.aload_n 0, 1) := by decide +kernel
theorem dX6_bout_22 : decode cX6_bout 22 = .ok (.iload_n 3, 1) := by decide +kernel
theorem dX6_bout_23 : decode cX6_bout 23 = .ok (.putfield 44, 3) := by decide +kernel
theorem dX6_bout_26 : decode cX6_bout 26 = .ok (.aload_n 0, 1) := by decide +kernel
theorem dX6_bout_27 : decode cX6_bout 27 = .ok (.iconst 0, 1) := by decide +kernel
theorem dX6_bout_28 : decode cX6_bout 28 = .ok (.iload_n 1, 1) := by decide +kernel
theorem dX6_bout_29 : decode cX6_bout 29 = .ok (.iload_n 2, 1) := by decide +kernel
theorem dX6_bout_30 : decode cX6_bout 30 = .ok (.invokevirtual 97, 3) := by decide +kernel
theorem dX6_bout_33 : decode cX6_bout 33 = .ok (.ireturn, 1) := by decide +kernel
set_option maxRecDepth 20000 in
theorem ggX6_best_X6_at : GoodIn wsX6_best wsX6_at := goodIn_r _ [5] (by decide +kernel) (by decide +kernel)
set_option maxRecDepth 20000 in
theorem gX6_best_X6_at : GoodIn wsX6_best (va_wsS RX6 30 yX6_at wsX6_at) := goodIn_app (goodIn_of _ (by decide +kernel)) ggX6_best_X6_at
theorem dX6_best_0 : decode cX6_best 0 = .ok (.bipush (-5), 2) := by decide +kernel
theorem dX6_best_2 : decode cX6_best 2 = .ok (.istore_n 2, 1) := by decide +kernel
theorem dX6_best_3 : decode cX6_best 3 = .ok (.iconst 0, 1) := by decide +kernel
theorem dX6_best_4 : decode cX6_best 4 = .ok (.istore_n 3, 1) := by decide +kernel
theorem dX6_best_5 : decode cX6_best 5 = .ok (.iload_n 3, 1) := by decide +kernel
theorem dX6_best_6 : decode cX6_best 6 = .ok (.aload_n 0, 1) := by decide +kernel
theorem dX6_best_7 : decode cX6_best 7 = .ok (.getfield 7, 3) := by decide +kernel
theorem dX6_best_10 : decode cX6_best 10 = .ok (.iconst 0, 1) := by decide +kernel
theorem dX6_best_11 : decode cX6_best 11 = .ok (.iaload, 1) := by decide +kernel
theorem dX6_best_12 : decode cX6_best 12 = .ok (.if_icmp .ge 88, 3) := by decide +kernel
theorem dX6_best_15 : decode cX6_best 15 = .ok (.iconst 0, 1) := by decide +kernel
theorem dX6_best_16 : decode cX6_best 16 = .ok (.iload_n 3, 1) := by decide +kernel
theorem dX6_best_17 : decode cX6_best 17 = .ok (.invokestatic 30, 3) := by decide +kernel
theorem dX6_best_20 : decode cX6_best 20 = .ok (.istore 4, 2) := by decide +kernel
theorem dX6_best_22 : decode cX6_best 22 = .ok (.aload_n 0, 1) := by decide +kernel
theorem dX6_best_23 : decode cX6_best 23 = .ok (.getfield 7, 3) := by decide +kernel
theorem dX6_best_26 : decode cX6_best 26 = .ok (.iload 4, 2) := by decide +kernel
theorem dX6_best_28 : decode cX6_best 28 = .ok (.iaload, 1) := by decide +kernel
theorem dX6_best_29 : decode cX6_best 29 = .ok (.iload_n 1, 1) := by decide +kernel
theorem dX6_best_30 : decode cX6_best 30 = .ok (.if_icmp .ne 20, 3) := by decide +kernel
theorem dX6_best_33 : decode cX6_best 33 = .ok (.aload_n 0, 1) := by decide +kernel
theorem dX6_best_34 : decode cX6_best 34 = .ok (.getfield 7, 3) := by decide +kernel
theorem dX6_best_37 : decode cX6_best 37 = .ok (.iload 4, 2) := by decide +kernel
theorem dX6_best_39 : decode cX6_best 39 = .ok (.bipush 6, 2) := by decide +kernel
theorem dX6_best_41 : decode cX6_best 41 = .ok (.iadd, 1) := by decide +kernel
theorem dX6_best_42 : decode cX6_best 42 = .ok (.iaload, 1) := by decide +kernel
theorem dX6_best_43 : decode cX6_best 43 = .ok (.ifCond .ne 7, 3) := by decide +kernel
theorem dX6_best_46 : decode cX6_best 46 = .ok (.iconst 1, 1) := by decide +kernel
theorem dX6_best_47 : decode cX6_best 47 = .ok (.goto 4, 3) := by decide +kernel
theorem dX6_best_50 : decode cX6_best 50 = .ok (.iconst 0, 1) := by decide +kernel
theorem dX6_best_51 : decode cX6_best 51 = .ok (.istore 5, 2) := by decide +kernel
theorem dX6_best_53 : decode cX6_best 53 = .ok (.iload 5, 2) := by decide +kernel
theorem dX6_best_55 : decode cX6_best 55 = .ok (.ifCond .eq 37, 3) := by decide +kernel
theorem dX6_best_58 : decode cX6_best 58 = .ok (.iload_n 2, 1) := by decide +kernel
theorem dX6_best_59 : decode cX6_best 59 = .ok (.bipush (-5), 2) := by decide +kernel
theorem dX6_best_61 : decode cX6_best 61 = .ok (.if_icmp .eq 27, 3) := by decide +kernel
theorem dX6_best_64 : decode cX6_best 64 = .ok (.aload_n 0, 1) := by decide +kernel
theorem dX6_best_65 : decode cX6_best 65 = .ok (.getfield 7, 3) := by decide +kernel
theorem dX6_best_68 : decode cX6_best 68 = .ok (.iload 4, 2) := by decide +kernel
theorem dX6_best_70 : decode cX6_best 70 = .ok (.iconst 4, 1) := by decide +kernel
theorem dX6_best_71 : decode cX6_best 71 = .ok (.iadd, 1) := by decide +kernel
theorem dX6_best_72 : decode cX6_best 72 = .ok (.iaload, 1) := by decide +kernel
theorem dX6_best_73 : decode cX6_best 73 = .ok (.aload_n 0, 1) := by decide +kernel
theorem dX6_best_74 : decode cX6_best 74 = .ok (.getfield 7, 3) := by decide +kernel
theorem dX6_best_77 : decode cX6_best 77 = .ok (.iconst 0, 1) := by decide +kernel
theorem dX6_best_78 : decode cX6_best 78 = .ok (.iload_n 2, 1) := by decide +kernel
theorem dX6_best_79 : decode cX6_best 79 = .ok (.invokestatic 30, 3) := by decide +kernel
theorem dX6_best_82 : decode cX6_best 82 = .ok (.iconst 4, 1) := by decide +kernel
theorem dX6_best_83 : decode cX6_best 83 = .ok (.iadd, 1) := by decide +kernel
theorem dX6_best_84 : decode cX6_best 84 = .ok (.iaload, 1) := by decide +kernel
theorem dX6_best_85 : decode cX6_best 85 = .ok (.if_icmp .le 7, 3) := by decide +kernel
theorem dX6_best_88 : decode cX6_best 88 = .ok (.iload_n 3, 1) := by decide +kernel
theorem dX6_best_89 : decode cX6_best 89 = .ok (.goto 4, 3) := by decide +kernel
theorem dX6_best_92 : decode cX6_best 92 = .ok (.iload_n 2, 1) := by decide +kernel
theorem dX6_best_93 : decode cX6_best 93 = .ok (.istore_n 2, 1) := by decide +kernel
theorem dX6_best_94 : decode cX6_best 94 = .ok (.iinc 3 1, 3) := by decide +kernel
theorem dX6_best_97 : decode cX6_best 97 = .ok (.goto (-92), 3) := by decide +kernel
theorem dX6_best_100 : decode cX6_best 100 = .ok (.iload_n 2, 1) := by decide +kernel
theorem dX6_best_101 : decode cX6_best 101 = .ok (.ireturn, 1) := by decide +kernel
set_option maxRecDepth 20000 in
theorem ggX6_lines_X6_best : GoodIn wsX6_lines wsX6_best := goodIn_r _ [8, 2, 9, 10, 7, 11, 12, 13, 14, 15, 16, 17, 18, 19, 20, 21, 22, 23, 24] (by decide +kernel) (by decide +kernel)
set_option maxRecDepth 20000 in
theorem gX6_lines_X6_best : GoodIn wsX6_lines (wsV RX6 100 RX6 yX6_best wsX6_best) := goodIn_app (goodIn_of _ (by decide +kernel)) ggX6_lines_X6_best
theorem dX6_lines_0 : decode cX6_lines 0 = .ok (.iconst 0, 1) := by decide +kernel
theorem dX6_lines_1 : decode cX6_lines 1 = .ok (.istore_n 1, 1) := by decide +kernel
theorem dX6_lines_2 : decode cX6_lines 2 = .ok (.iconst 0, 1) := by decide +kernel
theorem dX6_lines_3 : decode cX6_lines 3 = .ok (.istore_n 2, 1) := by decide +kernel
theorem dX6_lines_4 : decode cX6_lines 4 = .ok (.iload_n 2, 1) := by decide +kernel
theorem dX6_lines_5 : decode cX6_lines 5 = .ok (.bipush 6, 2) := by decide +kernel
theorem dX6_lines_7 : decode cX6_lines 7 = .ok (.if_icmp .ge 101, 3) := by decide +kernel
theorem dX6_lines_10 : decode cX6_lines 10 = .ok (.aload_n 0, 1) := by decide +kernel
theorem dX6_lines_11 : decode cX6_lines 11 = .ok (.getfield 19, 3) := by decide +kernel
theorem dX6_lines_14 : decode cX6_lines 14 = .ok (.iload_n 2, 1) := by decide +kernel
theorem dX6_lines_15 : decode cX6_lines 15 = .ok (.aload_n 0, 1) := by decide +kernel
theorem dX6_lines_16 : decode cX6_lines 16 = .ok (.iload_n 2, 1) := by decide +kernel
theorem dX6_lines_17 : decode cX6_lines 17 = .ok (.invokevirtual 100, 3) := by decide +kernel
theorem dX6_lines_20 : decode cX6_lines 20 = .ok (.iastore, 1) := by decide +kernel
theorem dX6_lines_21 : decode cX6_lines 21 = .ok (.aload_n 0, 1) := by decide +kernel
theorem dX6_lines_22 : decode cX6_lines 22 = .ok (.getfield 19, 3) := by decide +kernel
theorem dX6_lines_25 : decode cX6_lines 25 = .ok (.iload_n 2, 1) := by decide +kernel
theorem dX6_lines_26 : decode cX6_lines 26 = .ok (.iaload, 1) := by decide +kernel
theorem dX6_lines_27 : decode cX6_lines 27 = .ok (.bipush (-5), 2) := by decide +kernel
theorem dX6_lines_29 : decode cX6_lines 29 = .ok (.if_icmp .eq 73, 3) := by decide +kernel
theorem dX6_lines_32 : decode cX6_lines 32 = .ok (.iload_n 1, 1) := by decide +kernel
theorem dX6_lines_33 : decode cX6_lines 33 = .ok (.istore_n 3, 1) := by decide +kernel
theorem dX6_lines_34 : decode cX6_lines 34 = .ok (.iload_n 3, 1) := by decide +kernel
theorem dX6_lines_35 : decode cX6_lines 35 = .ok (.ifCond .le 57, 3) := by decide +kernel
theorem dX6_lines_38 : decode cX6_lines 38 = .ok (.aload_n 0, 1) := by decide +kernel
theorem dX6_lines_39 : decode cX6_lines 39 = .ok (.getfield 7, 3) := by decide +kernel
theorem dX6_lines_42 : decode cX6_lines 42 = .ok (.iconst 4, 1) := by decide +kernel
theorem dX6_lines_43 : decode cX6_lines 43 = .ok (.iconst 2, 1) := by decide +kernel
theorem dX6_lines_44 : decode cX6_lines 44 = .ok (.aload_n 0, 1) := by decide +kernel
theorem dX6_lines_45 : decode cX6_lines 45 = .ok (.getfield 16, 3) := by decide +kernel
theorem dX6_lines_48 : decode cX6_lines 48 = .ok (.iload_n 3, 1) := by decide +kernel
theorem dX6_lines_49 : decode cX6_lines 49 = .ok (.iconst 1, 1) := by decide +kernel
theorem dX6_lines_50 : decode cX6_lines 50 = .ok (.isub, 1) := by decide +kernel
theorem dX6_lines_51 : decode cX6_lines 51 = .ok (.iaload, 1) := by decide +kernel
theorem dX6_lines_52 : decode cX6_lines 52 = .ok (.imul, 1) := by decide +kernel
theorem dX6_lines_53 : decode cX6_lines 53 = .ok (.iadd, 1) := by decide +kernel
theorem dX6_lines_54 : decode cX6_lines 54 = .ok (.iconst 1, 1) := by decide +kernel
theorem dX6_lines_55 : decode cX6_lines 55 = .ok (.iadd, 1) := by decide +kernel
theorem dX6_lines_56 : decode cX6_lines 56 = .ok (.iaload, 1) := by decide +kernel
theorem dX6_lines_57 : decode cX6_lines 57 = .ok (.aload_n 0, 1) := by decide +kernel
theorem dX6_lines_58 : decode cX6_lines 58 = .ok (.getfield 7, 3) := by decide +kernel
end
section
theorem dX6_lines_61 : decode cX6_lines 61 = .ok (.iconst 4, 1) := by decide +kernel
theorem dX6_lines_62 : decode cX6_lines 62 = .ok (.iconst 2, 1) := by decide +kernel
theorem dX6_lines_63 : decode cX6_lines 63 = .ok (.iload_n 2, 1) := by decide +kernel
theorem dX6_lines_64 : decode cX6_lines 64 = .ok (.imul, 1) := by decide +kernel
theorem dX6_lines_65 : decode cX6_lines 65 = .ok (.iadd, 1) := by decide +kernel
theorem dX6_lines_66 : decode cX6_lines 66 = .ok (.iconst 1, 1) := by decide +kernel
theorem dX6_lines_67 : decode cX6_lines 67 = .ok (.iadd, 1) := by decide +kernel
theorem dX6_lines_68 : decode cX6_lines 68 = .ok (.iaload, 1) := by decide +kernel
theorem dX6_lines_69 : decode cX6_lines 69 = .ok (.if_icmp .le 23, 3) := by decide +kernel
theorem dX6_lines_72 : decode cX6_lines 72 = .ok (.aload_n 0, 1) := by decide +kernel
theorem dX6_lines_73 : decode cX6_lines 73 = .ok (.getfield 16, 3) := by decide +kernel
theorem dX6_lines_76 : decode cX6_lines 76 = .ok (.iload_n 3, 1) := by decide +kernel
theorem dX6_lines_77 : decode cX6_lines 77 = .ok (.aload_n 0, 1) := by decide +kernel
theorem dX6_lines_78 : decode cX6_lines 78 = .ok (.getfield 16, 3) := by decide +kernel
theorem dX6_lines_81 : decode cX6_lines 81 = .ok (.iload_n 3, 1) := by decide +kernel
theorem dX6_lines_82 : decode cX6_lines 82 = .ok (.iconst 1, 1) := by decide +kernel
theorem dX6_lines_83 : decode cX6_lines 83 = .ok (.isub, 1) := by decide +kernel
theorem dX6_lines_84 : decode cX6_lines 84 = .ok (.iaload, 1) := by decide +kernel
theorem dX6_lines_85 : decode cX6_lines 85 = .ok (.iastore, 1) := by decide +kernel
theorem dX6_lines_86 : decode cX6_lines 86 = .ok (.iinc 3 (-1), 3) := by decide +kernel
theorem dX6_lines_89 : decode cX6_lines 89 = .ok (.goto (-55), 3) := by decide +kernel
theorem dX6_lines_92 : decode cX6_lines 92 = .ok (.aload_n 0, 1) := by decide +kernel
theorem dX6_lines_93 : decode cX6_lines 93 = .ok (.getfield 16, 3) := by decide +kernel
theorem dX6_lines_96 : decode cX6_lines 96 = .ok (.iload_n 3, 1) := by decide +kernel
theorem dX6_lines_97 : decode cX6_lines 97 = .ok (.iload_n 2, 1) := by decide +kernel
theorem dX6_lines_98 : decode cX6_lines 98 = .ok (.iastore, 1) := by decide +kernel
theorem dX6_lines_99 : decode cX6_lines 99 = .ok (.iinc 1 1, 3) := by decide +kernel
theorem dX6_lines_102 : decode cX6_lines 102 = .ok (.iinc 2 1, 3) := by decide +kernel
theorem dX6_lines_105 : decode cX6_lines 105 = .ok (.goto (-101), 3) := by decide +kernel
theorem dX6_lines_108 : decode cX6_lines 108 = .ok (.iload_n 1, 1) := by decide +kernel
theorem dX6_lines_109 : decode cX6_lines 109 = .ok (.ireturn, 1) := by decide +kernel
set_option maxRecDepth 20000 in
theorem ggX6_round_X6_in : GoodIn wsX6_round wsX6_in := goodIn_r _ [8] (by decide +kernel) (by decide +kernel)
set_option maxRecDepth 20000 in
theorem gX6_round_X6_in : GoodIn wsX6_round (va_wsS RX6 55 yX6_in wsX6_in) := goodIn_app (goodIn_of _ (by decide +kernel)) ggX6_round_X6_in
set_option maxRecDepth 20000 in
theorem ggX6_round_X6_records : GoodIn wsX6_round wsX6_records := goodIn_r _ [12, 13, 14, 15, 16, 7, 17, 18, 53, 54, 55, 56, 57, 58, 59, 60, 61, 62, 63, 64, 65] (by decide +kernel) (by decide +kernel)
set_option maxRecDepth 20000 in
theorem gX6_round_X6_records : GoodIn wsX6_round (wsV RX6 74 RX6 yX6_records wsX6_records) := goodIn_app (goodIn_of _ (by decide +kernel)) ggX6_round_X6_records
set_option maxRecDepth 20000 in
theorem ggX6_round_X6_lines : GoodIn wsX6_round wsX6_lines := goodIn_r _ [22, 3, 18, 4, 23, 24, 25, 7, 26, 27, 28, 29, 53, 54, 55, 56, 57, 58, 59, 60, 61, 62, 63, 64, 65] (by decide +kernel) (by decide +kernel)
set_option maxRecDepth 20000 in
theorem gX6_round_X6_lines : GoodIn wsX6_round (wsV RX6 103 RX6 yX6_lines wsX6_lines) := goodIn_app (goodIn_of _ (by decide +kernel)) ggX6_round_X6_lines
set_option maxRecDepth 20000 in
theorem ggX6_round_X6_goesOn : GoodIn wsX6_round wsX6_goesOn := goodIn_r _ [33, 2, 34, 53, 54, 55, 56, 57, 58, 59, 60, 61, 62, 63, 64, 65] (by decide +kernel) (by decide +kernel)
set_option maxRecDepth 20000 in
theorem gX6_round_X6_goesOn : GoodIn wsX6_round (wsV RX6 48 RX6 yX6_goesOn wsX6_goesOn) := goodIn_app (goodIn_of _ (by decide +kernel)) ggX6_round_X6_goesOn
set_option maxRecDepth 20000 in
theorem ggX6_round_X6_fights : GoodIn wsX6_round wsX6_fights := goodIn_r _ [38, 18, 2, 39, 40, 7, 41, 27, 28, 29, 30, 31, 32, 33, 34, 42, 43, 44, 45, 46, 47, 48, 49, 50, 51, 52, 53, 54, 55, 56, 57, 58, 59, 60, 61, 62, 63, 64, 65] (by decide +kernel) (by decide +kernel)
set_option maxRecDepth 20000 in
theorem gX6_round_X6_fights : GoodIn wsX6_round (wsV RX6 97 RX6 yX6_fights wsX6_fights) := goodIn_app (goodIn_of _ (by decide +kernel)) ggX6_round_X6_fights
theorem dX6_round_0 : decode cX6_round 0 = .ok (.iload_n 1, 1) := by decide +kernel
theorem dX6_round_1 : decode cX6_round 1 = .ok (.iconst 0, 1) := by decide +kernel
theorem dX6_round_2 : decode cX6_round 2 = .ok (.ldc 93, 2) := by decide +kernel
theorem dX6_round_4 : decode cX6_round 4 = .ok (.invokestatic 55, 3) := by decide +kernel
theorem dX6_round_7 : decode cX6_round 7 = .ok (.ifCond .ne 6, 3) := by decide +kernel
theorem dX6_round_10 : decode cX6_round 10 = .ok (.bipush (-2), 2) := by decide +kernel
theorem dX6_round_12 : decode cX6_round 12 = .ok (.ireturn, 1) := by decide +kernel
theorem dX6_round_13 : decode cX6_round 13 = .ok (.aload_n 0, 1) := by decide +kernel
theorem dX6_round_14 : decode cX6_round 14 = .ok (.invokevirtual 74, 3) := by decide +kernel
theorem dX6_round_17 : decode cX6_round 17 = .ok (.aload_n 0, 1) := by decide +kernel
theorem dX6_round_18 : decode cX6_round 18 = .ok (.iload_n 1, 1) := by decide +kernel
theorem dX6_round_19 : decode cX6_round 19 = .ok (.putfield 44, 3) := by decide +kernel
theorem dX6_round_22 : decode cX6_round 22 = .ok (.iconst 0, 1) := by decide +kernel
theorem dX6_round_23 : decode cX6_round 23 = .ok (.istore_n 2, 1) := by decide +kernel
theorem dX6_round_24 : decode cX6_round 24 = .ok (.aload_n 0, 1) := by decide +kernel
theorem dX6_round_25 : decode cX6_round 25 = .ok (.invokevirtual 103, 3) := by decide +kernel
theorem dX6_round_28 : decode cX6_round 28 = .ok (.istore_n 3, 1) := by decide +kernel
theorem dX6_round_29 : decode cX6_round 29 = .ok (.iload_n 3, 1) := by decide +kernel
theorem dX6_round_30 : decode cX6_round 30 = .ok (.iconst 1, 1) := by decide +kernel
theorem dX6_round_31 : decode cX6_round 31 = .ok (.if_icmp .le 108, 3) := by decide +kernel
theorem dX6_round_34 : decode cX6_round 34 = .ok (.aload_n 0, 1) := by decide +kernel
theorem dX6_round_35 : decode cX6_round 35 = .ok (.invokevirtual 48, 3) := by decide +kernel
theorem dX6_round_38 : decode cX6_round 38 = .ok (.iconst 1, 1) := by decide +kernel
theorem dX6_round_39 : decode cX6_round 39 = .ok (.aload_n 0, 1) := by decide +kernel
theorem dX6_round_40 : decode cX6_round 40 = .ok (.getfield 44, 3) := by decide +kernel
theorem dX6_round_43 : decode cX6_round 43 = .ok (.iload_n 3, 1) := by decide +kernel
theorem dX6_round_44 : decode cX6_round 44 = .ok (.iconst 1, 1) := by decide +kernel
theorem dX6_round_45 : decode cX6_round 45 = .ok (.isub, 1) := by decide +kernel
theorem dX6_round_46 : decode cX6_round 46 = .ok (.irem, 1) := by decide +kernel
theorem dX6_round_47 : decode cX6_round 47 = .ok (.iadd, 1) := by decide +kernel
theorem dX6_round_48 : decode cX6_round 48 = .ok (.istore 4, 2) := by decide +kernel
theorem dX6_round_50 : decode cX6_round 50 = .ok (.aload_n 0, 1) := by decide +kernel
theorem dX6_round_51 : decode cX6_round 51 = .ok (.getfield 19, 3) := by decide +kernel
theorem dX6_round_54 : decode cX6_round 54 = .ok (.aload_n 0, 1) := by decide +kernel
theorem dX6_round_55 : decode cX6_round 55 = .ok (.getfield 16, 3) := by decide +kernel
theorem dX6_round_58 : decode cX6_round 58 = .ok (.iconst 0, 1) := by decide +kernel
theorem dX6_round_59 : decode cX6_round 59 = .ok (.iaload, 1) := by decide +kernel
theorem dX6_round_60 : decode cX6_round 60 = .ok (.iaload, 1) := by decide +kernel
theorem dX6_round_61 : decode cX6_round 61 = .ok (.istore 5, 2) := by decide +kernel
theorem dX6_round_63 : decode cX6_round 63 = .ok (.aload_n 0, 1) := by decide +kernel
theorem dX6_round_64 : decode cX6_round 64 = .ok (.getfield 19, 3) := by decide +kernel
theorem dX6_round_67 : decode cX6_round 67 = .ok (.aload_n 0, 1) := by decide +kernel
theorem dX6_round_68 : decode cX6_round 68 = .ok (.getfield 16, 3) := by decide +kernel
theorem dX6_round_71 : decode cX6_round 71 = .ok (.iload 4, 2) := by decide +kernel
theorem dX6_round_73 : decode cX6_round 73 = .ok (.iaload, 1) := by decide +kernel
theorem dX6_round_74 : decode cX6_round 74 = .ok (.iaload, 1) := by decide +kernel
theorem dX6_round_75 : decode cX6_round 75 = .ok (.istore 6, 2) := by decide +kernel
theorem dX6_round_77 : decode cX6_round 77 = .ok (.iconst 0, 1) := by decide +kernel
theorem dX6_round_78 : decode cX6_round 78 = .ok (.istore 7, 2) := by decide +kernel
theorem dX6_round_80 : decode cX6_round 80 = .ok (.iconst 1, 1) := by decide +kernel
theorem dX6_round_81 : decode cX6_round 81 = .ok (.istore 8, 2) := by decide +kernel
theorem dX6_round_83 : decode cX6_round 83 = .ok (.iload 8, 2) := by decide +kernel
theorem dX6_round_85 : decode cX6_round 85 = .ok (.iload_n 3, 1) := by decide +kernel
theorem dX6_round_86 : decode cX6_round 86 = .ok (.if_icmp .ge 33, 3) := by decide +kernel
theorem dX6_round_89 : decode cX6_round 89 = .ok (.iload 8, 2) := by decide +kernel
theorem dX6_round_91 : decode cX6_round 91 = .ok (.iload 4, 2) := by decide +kernel
theorem dX6_round_93 : decode cX6_round 93 = .ok (.if_icmp .eq 20, 3) := by decide +kernel
theorem dX6_round_96 : decode cX6_round 96 = .ok (.aload_n 0, 1) := by decide +kernel
theorem dX6_round_97 : decode cX6_round 97 = .ok (.getfield 16, 3) := by decide +kernel
theorem dX6_round_100 : decode cX6_round 100 = .ok (.iload 7, 2) := by decide +kernel
theorem dX6_round_102 : decode cX6_round 102 = .ok (.aload_n 0, 1) := by decide +kernel
theorem dX6_round_103 : decode cX6_round 103 = .ok (.getfield 16, 3) := by decide +kernel
theorem dX6_round_106 : decode cX6_round 106 = .ok (.iload 8, 2) := by decide +kernel
theorem dX6_round_108 : decode cX6_round 108 = .ok (.iaload, 1) := by decide +kernel
theorem dX6_round_109 : decode cX6_round 109 = .ok (.iastore, 1) := by decide +kernel
theorem dX6_round_110 : decode cX6_round 110 = .ok (.iinc 7 1, 3) := by decide +kernel
theorem dX6_round_113 : decode cX6_round 113 = .ok (.iinc 8 1, 3) := by decide +kernel
theorem dX6_round_116 : decode cX6_round 116 = .ok (.goto (-33), 3) := by decide +kernel
theorem dX6_round_119 : decode cX6_round 119 = .ok (.iload 7, 2) := by decide +kernel
theorem dX6_round_121 : decode cX6_round 121 = .ok (.istore_n 3, 1) := by decide +kernel
theorem dX6_round_122 : decode cX6_round 122 = .ok (.aload_n 0, 1) := by decide +kernel
theorem dX6_round_123 : decode cX6_round 123 = .ok (.iconst 0, 1) := by decide +kernel
theorem dX6_round_124 : decode cX6_round 124 = .ok (.iload 5, 2) := by decide +kernel
theorem dX6_round_126 : decode cX6_round 126 = .ok (.iload 6, 2) := by decide +kernel
theorem dX6_round_128 : decode cX6_round 128 = .ok (.invokevirtual 97, 3) := by decide +kernel
theorem dX6_round_131 : decode cX6_round 131 = .ok (.istore 8, 2) := by decide +kernel
theorem dX6_round_133 : decode cX6_round 133 = .ok (.iinc 2 1, 3) := by decide +kernel
theorem dX6_round_136 : decode cX6_round 136 = .ok (.goto (-107), 3) := by decide +kernel
theorem dX6_round_139 : decode cX6_round 139 = .ok (.iload_n 2, 1) := by decide +kernel
theorem dX6_round_140 : decode cX6_round 140 = .ok (.ireturn, 1) := by decide +kernel
set_option maxRecDepth 20000 in
theorem ggX6_append_X6_in : GoodIn wsX6_append wsX6_in := goodIn_r _ [6] (by decide +kernel) (by decide +kernel)
set_option maxRecDepth 20000 in
theorem gX6_append_X6_in : GoodIn wsX6_append (va_wsS RX6 55 yX6_in wsX6_in) := goodIn_app (goodIn_of _ (by decide +kernel)) ggX6_append_X6_in
theorem dX6_append_0 : decode cX6_append 0 = .ok (.iload_n 1, 1) := by decide +kernel
theorem dX6_append_1 : decode cX6_append 1 = .ok (.bipush 32, 2) := by decide +kernel
theorem dX6_append_3 : decode cX6_append 3 = .ok (.bipush 126, 2) := by decide +kernel
theorem dX6_append_5 : decode cX6_append 5 = .ok (.invokestatic 55, 3) := by decide +kernel
theorem dX6_append_8 : decode cX6_append 8 = .ok (.ifCond .ne 6, 3) := by decide +kernel
theorem dX6_append_11 : decode cX6_append 11 = .ok (.bipush (-2), 2) := by decide +kernel
theorem dX6_append_13 : decode cX6_append 13 = .ok (.ireturn, 1) := by decide +kernel
theorem dX6_append_14 : decode cX6_append 14 = .ok (.aload_n 0, 1) := by decide +kernel
theorem dX6_append_15 : decode cX6_append 15 = .ok (.getfield 107, 3) := by decide +kernel
theorem dX6_append_18 : decode cX6_append 18 = .ok (.bipush 60, 2) := by decide +kernel
theorem dX6_append_20 : decode cX6_append 20 = .ok (.if_icmp .ne 6, 3) := by decide +kernel
theorem dX6_append_23 : decode cX6_append 23 = .ok (.bipush (-3), 2) := by decide +kernel
theorem dX6_append_25 : decode cX6_append 25 = .ok (.ireturn, 1) := by decide +kernel
theorem dX6_append_26 : decode cX6_append 26 = .ok (.aload_n 0, 1) := by decide +kernel
theorem dX6_append_27 : decode cX6_append 27 = .ok (.getfield 13, 3) := by decide +kernel
theorem dX6_append_30 : decode cX6_append 30 = .ok (.aload_n 0, 1) := by decide +kernel
theorem dX6_append_31 : decode cX6_append 31 = .ok (.getfield 107, 3) := by decide +kernel
theorem dX6_append_34 : decode cX6_append 34 = .ok (.iload_n 1, 1) := by decide +kernel
theorem dX6_append_35 : decode cX6_append 35 = .ok (.iastore, 1) := by decide +kernel
theorem dX6_append_36 : decode cX6_append 36 = .ok (.aload_n 0, 1) := by decide +kernel
theorem dX6_append_37 : decode cX6_append 37 = .ok (.dup, 1) := by decide +kernel
theorem dX6_append_38 : decode cX6_append 38 = .ok (.getfield 107, 3) := by decide +kernel
theorem dX6_append_41 : decode cX6_append 41 = .ok (.iconst 1, 1) := by decide +kernel
theorem dX6_append_42 : decode cX6_append 42 = .ok (.iadd, 1) := by decide +kernel
theorem dX6_append_43 : decode cX6_append 43 = .ok (.putfield 107, 3) := by decide +kernel
theorem dX6_append_46 : decode cX6_append 46 = .ok (.aload_n 0, 1) := by decide +kernel
theorem dX6_append_47 : decode cX6_append 47 = .ok (.getfield 107, 3) := by decide +kernel
theorem dX6_append_50 : decode cX6_append 50 = .ok (.ireturn, 1) := by decide +kernel
theorem dX6_clearText_0 : decode cX6_clearText 0 = .ok (.aload_n 0, 1) := by decide +kernel
theorem dX6_clearText_1 : decode cX6_clearText 1 = .ok (.getfield 107, 3) := by decide +kernel
theorem dX6_clearText_4 : decode cX6_clearText 4 = .ok (.istore_n 1, 1) := by decide +kernel
theorem dX6_clearText_5 : decode cX6_clearText 5 = .ok (.aload_n 0, 1) := by decide +kernel
theorem dX6_clearText_6 : decode cX6_clearText 6 = .ok (.iconst 0, 1) := by decide +kernel
theorem dX6_clearText_7 : decode cX6_clearText 7 = .ok (.putfield 107, 3) := by decide +kernel
theorem dX6_clearText_10 : decode cX6_clearText 10 = .ok (.iload_n 1, 1) := by decide +kernel
theorem dX6_clearText_11 : decode cX6_clearText 11 = .ok (.ireturn, 1) := by decide +kernel
set_option maxRecDepth 20000 in
theorem ggX6_isHere_X6_in : GoodIn wsX6_isHere wsX6_in := goodIn_r _ [7] (by decide +kernel) (by decide +kernel)
set_option maxRecDepth 20000 in
theorem gX6_isHere_X6_in : GoodIn wsX6_isHere (va_wsS RX6 55 yX6_in wsX6_in) := goodIn_app (goodIn_of _ (by decide +kernel)) ggX6_isHere_X6_in
theorem dX6_isHere_0 : decode cX6_isHere 0 = .ok (.aload_n 0, 1) := by decide +kernel
theorem dX6_isHere_1 : decode cX6_isHere 1 = .ok (.getfield 110, 3) := by decide +kernel
theorem dX6_isHere_4 : decode cX6_isHere 4 = .ok (.aload_n 0, 1) := by decide +kernel
theorem dX6_isHere_5 : decode cX6_isHere 5 = .ok (.getfield 107, 3) := by decide +kernel
theorem dX6_isHere_8 : decode cX6_isHere 8 = .ok (.if_icmp .ge 24, 3) := by decide +kernel
theorem dX6_isHere_11 : decode cX6_isHere 11 = .ok (.aload_n 0, 1) := by decide +kernel
theorem dX6_isHere_12 : decode cX6_isHere 12 = .ok (.getfield 13, 3) := by decide +kernel
theorem dX6_isHere_15 : decode cX6_isHere 15 = .ok (.aload_n 0, 1) := by decide +kernel
theorem dX6_isHere_16 : decode cX6_isHere 16 = .ok (.getfield 110, 3) := by decide +kernel
theorem dX6_isHere_19 : decode cX6_isHere 19 = .ok (.iaload, 1) := by decide +kernel
theorem dX6_isHere_20 : decode cX6_isHere 20 = .ok (.iload_n 1, 1) := by decide +kernel
theorem dX6_isHere_21 : decode cX6_isHere 21 = .ok (.iload_n 2, 1) := by decide +kernel
theorem dX6_isHere_22 : decode cX6_isHere 22 = .ok (.invokestatic 55, 3) := by decide +kernel
theorem dX6_isHere_25 : decode cX6_isHere 25 = .ok (.ifCond .eq 7, 3) := by decide +kernel
theorem dX6_isHere_28 : decode cX6_isHere 28 = .ok (.iconst 1, 1) := by decide +kernel
theorem dX6_isHere_29 : decode cX6_isHere 29 = .ok (.goto 4, 3) := by decide +kernel
theorem dX6_isHere_32 : decode cX6_isHere 32 = .ok (.iconst 0, 1) := by decide +kernel
theorem dX6_isHere_33 : decode cX6_isHere 33 = .ok (.ireturn, 1) := by decide +kernel
set_option maxRecDepth 20000 in
theorem ggX6_takes_X6_isHere : GoodIn wsX6_takes wsX6_isHere := goodIn_r _ [6, 1, 7, 8, 9, 10, 5, 11, 15, 16, 17, 18, 19, 20, 21, 22, 23, 24, 25, 26, 27] (by decide +kernel) (by decide +kernel)
set_option maxRecDepth 20000 in
theorem gX6_takes_X6_isHere : GoodIn wsX6_takes (wsV RX6 113 RX6 yX6_isHere wsX6_isHere) := goodIn_app (goodIn_of _ (by decide +kernel)) ggX6_takes_X6_isHere
set_option maxRecDepth 20000 in
theorem ggX6_takes_X6_flag : GoodIn wsX6_takes wsX6_flag := goodIn_r _ [14] (by decide +kernel) (by decide +kernel)
set_option maxRecDepth 20000 in
theorem gX6_takes_X6_flag : GoodIn wsX6_takes (va_wsS RX6 40 yX6_flag wsX6_flag) := goodIn_app (goodIn_of _ (by decide +kernel)) ggX6_takes_X6_flag
theorem dX6_takes_0 : decode cX6_takes 0 = .ok (.aload_n 0, 1) := by decide +kernel
theorem dX6_takes_1 : decode cX6_takes 1 = .ok (.iload_n 1, 1) := by decide +kernel
theorem dX6_takes_2 : decode cX6_takes 2 = .ok (.iload_n 1, 1) := by decide +kernel
theorem dX6_takes_3 : decode cX6_takes 3 = .ok (.invokevirtual 113, 3) := by decide +kernel
theorem dX6_takes_6 : decode cX6_takes 6 = .ok (.istore_n 2, 1) := by decide +kernel
theorem dX6_takes_7 : decode cX6_takes 7 = .ok (.aload_n 0, 1) := by decide +kernel
theorem dX6_takes_8 : decode cX6_takes 8 = .ok (.dup, 1) := by decide +kernel
theorem dX6_takes_9 : decode cX6_takes 9 = .ok (.getfield 110, 3) := by decide +kernel
theorem dX6_takes_12 : decode cX6_takes 12 = .ok (.iload_n 2, 1) := by decide +kernel
theorem dX6_takes_13 : decode cX6_takes 13 = .ok (.invokestatic 40, 3) := by decide +kernel
theorem dX6_takes_16 : decode cX6_takes 16 = .ok (.iadd, 1) := by decide +kernel
theorem dX6_takes_17 : decode cX6_takes 17 = .ok (.putfield 110, 3) := by decide +kernel
theorem dX6_takes_20 : decode cX6_takes 20 = .ok (.iload_n 2, 1) := by decide +kernel
theorem dX6_takes_21 : decode cX6_takes 21 = .ok (.ireturn, 1) := by decide +kernel
set_option maxRecDepth 20000 in
theorem ggX6_number_X6_isHere : GoodIn wsX6_number wsX6_isHere := goodIn_r _ [7, 2, 8, 1, 9, 10, 6, 11, 15, 16, 17, 18, 19, 20, 21, 22, 23, 24, 25, 26, 27] (by decide +kernel) (by decide +kernel)
set_option maxRecDepth 20000 in
theorem gX6_number_X6_isHere : GoodIn wsX6_number (wsV RX6 113 RX6 yX6_isHere wsX6_isHere) := goodIn_app (goodIn_of _ (by decide +kernel)) ggX6_number_X6_isHere
set_option maxRecDepth 20000 in
theorem ggX6_number_X6_flag : GoodIn wsX6_number wsX6_flag := goodIn_r _ [14] (by decide +kernel) (by decide +kernel)
set_option maxRecDepth 20000 in
theorem gX6_number_X6_flag : GoodIn wsX6_number (va_wsS RX6 40 yX6_flag wsX6_flag) := goodIn_app (goodIn_of _ (by decide +kernel)) ggX6_number_X6_flag
set_option maxRecDepth 20000 in
theorem ggX6_number_X6_in : GoodIn wsX6_number wsX6_in := goodIn_r _ [11] (by decide +kernel) (by decide +kernel)
set_option maxRecDepth 20000 in
theorem gX6_number_X6_in : GoodIn wsX6_number (va_wsS RX6 55 yX6_in wsX6_in) := goodIn_app (goodIn_of _ (by decide +kernel)) ggX6_number_X6_in
theorem dX6_number_0 : decode cX6_number 0 = .ok (.aload_n 0, 1) := by decide +kernel
theorem dX6_number_1 : decode cX6_number 1 = .ok (.bipush 48, 2) := by decide +kernel
theorem dX6_number_3 : decode cX6_number 3 = .ok (.bipush 57, 2) := by decide +kernel
theorem dX6_number_5 : decode cX6_number 5 = .ok (.invokevirtual 113, 3) := by decide +kernel
theorem dX6_number_8 : decode cX6_number 8 = .ok (.ifCond .eq 18, 3) := by decide +kernel
theorem dX6_number_11 : decode cX6_number 11 = .ok (.aload_n 0, 1) := by decide +kernel
theorem dX6_number_12 : decode cX6_number 12 = .ok (.getfield 13, 3) := by decide +kernel
theorem dX6_number_15 : decode cX6_number 15 = .ok (.aload_n 0, 1) := by decide +kernel
theorem dX6_number_16 : decode cX6_number 16 = .ok (.getfield 110, 3) := by decide +kernel
theorem dX6_number_19 : decode cX6_number 19 = .ok (.iaload, 1) := by decide +kernel
theorem dX6_number_20 : decode cX6_number 20 = .ok (.bipush 48, 2) := by decide +kernel
theorem dX6_number_22 : decode cX6_number 22 = .ok (.isub, 1) := by decide +kernel
theorem dX6_number_23 : decode cX6_number 23 = .ok (.goto 5, 3) := by decide +kernel
theorem dX6_number_26 : decode cX6_number 26 = .ok (.bipush (-5), 2) := by decide +kernel
theorem dX6_number_28 : decode cX6_number 28 = .ok (.istore_n 1, 1) := by decide +kernel
theorem dX6_number_29 : decode cX6_number 29 = .ok (.aload_n 0, 1) := by decide +kernel
theorem dX6_number_30 : decode cX6_number 30 = .ok (.dup, 1) := by decide +kernel
theorem dX6_number_31 : decode cX6_number 31 = .ok (.getfield 110, 3) := by decide +kernel
theorem dX6_number_34 : decode cX6_number 34 = .ok (.iload_n 1, 1) := by decide +kernel
theorem dX6_number_35 : decode cX6_number 35 = .ok (.bipush (-5), 2) := by decide +kernel
theorem dX6_number_37 : decode cX6_number 37 = .ok (.if_icmp .eq 7, 3) := by decide +kernel
theorem dX6_number_40 : decode cX6_number 40 = .ok (.iconst 1, 1) := by decide +kernel
theorem dX6_number_41 : decode cX6_number 41 = .ok (.goto 4, 3) := by decide +kernel
theorem dX6_number_44 : decode cX6_number 44 = .ok (.iconst 0, 1) := by decide +kernel
theorem dX6_number_45 : decode cX6_number 45 = .ok (.invokestatic 40, 3) := by decide +kernel
theorem dX6_number_48 : decode cX6_number 48 = .ok (.iadd, 1) := by decide +kernel
theorem dX6_number_49 : decode cX6_number 49 = .ok (.putfield 110, 3) := by decide +kernel
theorem dX6_number_52 : decode cX6_number 52 = .ok (.iload_n 1, 1) := by decide +kernel
theorem dX6_number_53 : decode cX6_number 53 = .ok (.iconst 1, 1) := by decide +kernel
theorem dX6_number_54 : decode cX6_number 54 = .ok (.iconst 2, 1) := by decide +kernel
theorem dX6_number_55 : decode cX6_number 55 = .ok (.invokestatic 55, 3) := by decide +kernel
theorem dX6_number_58 : decode cX6_number 58 = .ok (.ifCond .eq 42, 3) := by decide +kernel
theorem dX6_number_61 : decode cX6_number 61 = .ok (.aload_n 0, 1) := by decide +kernel
theorem dX6_number_62 : decode cX6_number 62 = .ok (.bipush 48, 2) := by decide +kernel
theorem dX6_number_64 : decode cX6_number 64 = .ok (.bipush 57, 2) := by decide +kernel
theorem dX6_number_66 : decode cX6_number 66 = .ok (.invokevirtual 113, 3) := by decide +kernel
theorem dX6_number_69 : decode cX6_number 69 = .ok (.ifCond .eq 31, 3) := by decide +kernel
theorem dX6_number_72 : decode cX6_number 72 = .ok (.bipush 10, 2) := by decide +kernel
theorem dX6_number_74 : decode cX6_number 74 = .ok (.iload_n 1, 1) := by decide +kernel
theorem dX6_number_75 : decode cX6_number 75 = .ok (.imul, 1) := by decide +kernel
theorem dX6_number_76 : decode cX6_number 76 = .ok (.aload_n 0, 1) := by decide +kernel
theorem dX6_number_77 : decode cX6_number 77 = .ok (.getfield 13, 3) := by decide +kernel
theorem dX6_number_80 : decode cX6_number 80 = .ok (.aload_n 0, 1) := by decide +kernel
theorem dX6_number_81 : decode cX6_number 81 = .ok (.getfield 110, 3) := by decide +kernel
theorem dX6_number_84 : decode cX6_number 84 = .ok (.iaload, 1) := by decide +kernel
theorem dX6_number_85 : decode cX6_number 85 = .ok (.iadd, 1) := by decide +kernel
theorem dX6_number_86 : decode cX6_number 86 = .ok (.bipush 48, 2) := by decide +kernel
theorem dX6_number_88 : decode cX6_number 88 = .ok (.isub, 1) := by decide +kernel
theorem dX6_number_89 : decode cX6_number 89 = .ok (.istore_n 1, 1) := by decide +kernel
theorem dX6_number_90 : decode cX6_number 90 = .ok (.aload_n 0, 1) := by decide +kernel
theorem dX6_number_91 : decode cX6_number 91 = .ok (.dup, 1) := by decide +kernel
theorem dX6_number_92 : decode cX6_number 92 = .ok (.getfield 110, 3) := by decide +kernel
theorem dX6_number_95 : decode cX6_number 95 = .ok (.iconst 1, 1) := by decide +kernel
theorem dX6_number_96 : decode cX6_number 96 = .ok (.iadd, 1) := by decide +kernel
theorem dX6_number_97 : decode cX6_number 97 = .ok (.putfield 110, 3) := by decide +kernel
theorem dX6_number_100 : decode cX6_number 100 = .ok (.iload_n 1, 1) := by decide +kernel
theorem dX6_number_101 : decode cX6_number 101 = .ok (.ireturn, 1) := by decide +kernel
set_option maxRecDepth 20000 in
theorem ggX6_readsOrder_X6_takes : GoodIn wsX6_readsOrder wsX6_takes := goodIn_r _ [11, 5, 12, 13, 14, 10, 15, 16, 4, 17, 18, 19, 20, 21, 22, 27, 28, 29, 30, 31, 32, 33, 34, 35, 36, 37, 38, 39] (by decide +kernel) (by decide +kernel)
set_option maxRecDepth 20000 in
theorem gX6_readsOrder_X6_takes : GoodIn wsX6_readsOrder (wsV RX6 117 RX6 yX6_takes wsX6_takes) := goodIn_app (goodIn_of _ (by decide +kernel)) ggX6_readsOrder_X6_takes
set_option maxRecDepth 20000 in
theorem ggX6_readsOrder_X6_number : GoodIn wsX6_readsOrder wsX6_number := goodIn_r _ [26, 4, 5, 12, 13, 14, 10, 15, 16, 17, 18, 19, 20, 21, 22, 27, 28, 29, 30, 31, 32, 33, 34, 35, 36, 37, 38, 39] (by decide +kernel) (by decide +kernel)
set_option maxRecDepth 20000 in
theorem gX6_readsOrder_X6_number : GoodIn wsX6_readsOrder (wsV RX6 123 RX6 yX6_number wsX6_number) := goodIn_app (goodIn_of _ (by decide +kernel)) ggX6_readsOrder_X6_number
set_option maxRecDepth 20000 in
theorem ggX6_readsOrder_X6_isHere : GoodIn wsX6_readsOrder wsX6_isHere := goodIn_r _ [15, 5, 16, 4, 17, 18, 10, 19, 27, 28, 29, 30, 31, 32, 33, 34, 35, 36, 37, 38, 39] (by decide +kernel) (by decide +kernel)
set_option maxRecDepth 20000 in
theorem gX6_readsOrder_X6_isHere : GoodIn wsX6_readsOrder (wsV RX6 113 RX6 yX6_isHere wsX6_isHere) := goodIn_app (goodIn_of _ (by decide +kernel)) ggX6_readsOrder_X6_isHere
set_option maxRecDepth 20000 in
theorem ggX6_readsOrder_X6_flag : GoodIn wsX6_readsOrder wsX6_flag := goodIn_r _ [22] (by decide +kernel) (by decide +kernel)
set_option maxRecDepth 20000 in
theorem gX6_readsOrder_X6_flag : GoodIn wsX6_readsOrder (va_wsS RX6 40 yX6_flag wsX6_flag) := goodIn_app (goodIn_of _ (by decide +kernel)) ggX6_readsOrder_X6_flag
theorem dX6_readsOrder_0 : decode cX6_readsOrder 0 = .ok (.aload_n 0, 1) := by decide +kernel
theorem dX6_readsOrder_1 : decode cX6_readsOrder 1 = .ok (.aload_n 0, 1) := by decide +kernel
theorem dX6_readsOrder_2 : decode cX6_readsOrder 2 = .ok (.bipush 116, 2) := by decide +kernel
theorem dX6_readsOrder_4 : decode cX6_readsOrder 4 = .ok (.invokevirtual 117, 3) := by decide +kernel
theorem dX6_readsOrder_7 : decode cX6_readsOrder 7 = .ok (.ifCond .eq 8, 3) := by decide +kernel
theorem dX6_readsOrder_10 : decode cX6_readsOrder 10 = .ok (.bipush 116, 2) := by decide +kernel
theorem dX6_readsOrder_12 : decode cX6_readsOrder 12 = .ok (.goto 19, 3) := by decide +kernel
theorem dX6_readsOrder_15 : decode cX6_readsOrder 15 = .ok (.aload_n 0, 1) := by decide +kernel
theorem dX6_readsOrder_16 : decode cX6_readsOrder 16 = .ok (.bipush 115, 2) := by decide +kernel
theorem dX6_readsOrder_18 : decode cX6_readsOrder 18 = .ok (.invokevirtual 117, 3) := by decide +kernel
theorem dX6_readsOrder_21 : decode cX6_readsOrder 21 = .ok (.ifCond .eq 8, 3) := by decide +kernel
theorem dX6_readsOrder_24 : decode cX6_readsOrder 24 = .ok (.bipush 115, 2) := by decide +kernel
theorem dX6_readsOrder_26 : decode cX6_readsOrder 26 = .ok (.goto 5, 3) := by decide +kernel
theorem dX6_readsOrder_29 : decode cX6_readsOrder 29 = .ok (.bipush 120, 2) := by decide +kernel
theorem dX6_readsOrder_31 : decode cX6_readsOrder 31 = .ok (.putfield 120, 3) := by decide +kernel
theorem dX6_readsOrder_34 : decode cX6_readsOrder 34 = .ok (.aload_n 0, 1) := by decide +kernel
theorem dX6_readsOrder_35 : decode cX6_readsOrder 35 = .ok (.aload_n 0, 1) := by decide +kernel
theorem dX6_readsOrder_36 : decode cX6_readsOrder 36 = .ok (.invokevirtual 123, 3) := by decide +kernel
theorem dX6_readsOrder_39 : decode cX6_readsOrder 39 = .ok (.putfield 126, 3) := by decide +kernel
theorem dX6_readsOrder_42 : decode cX6_readsOrder 42 = .ok (.aload_n 0, 1) := by decide +kernel
theorem dX6_readsOrder_43 : decode cX6_readsOrder 43 = .ok (.getfield 120, 3) := by decide +kernel
theorem dX6_readsOrder_46 : decode cX6_readsOrder 46 = .ok (.bipush 120, 2) := by decide +kernel
theorem dX6_readsOrder_48 : decode cX6_readsOrder 48 = .ok (.if_icmp .ne 12, 3) := by decide +kernel
theorem dX6_readsOrder_51 : decode cX6_readsOrder 51 = .ok (.aload_n 0, 1) := by decide +kernel
theorem dX6_readsOrder_52 : decode cX6_readsOrder 52 = .ok (.getfield 126, 3) := by decide +kernel
theorem dX6_readsOrder_55 : decode cX6_readsOrder 55 = .ok (.bipush (-5), 2) := by decide +kernel
theorem dX6_readsOrder_57 : decode cX6_readsOrder 57 = .ok (.if_icmp .ne 18, 3) := by decide +kernel
theorem dX6_readsOrder_60 : decode cX6_readsOrder 60 = .ok (.aload_n 0, 1) := by decide +kernel
theorem dX6_readsOrder_61 : decode cX6_readsOrder 61 = .ok (.getfield 126, 3) := by decide +kernel
theorem dX6_readsOrder_64 : decode cX6_readsOrder 64 = .ok (.bipush (-5), 2) := by decide +kernel
theorem dX6_readsOrder_66 : decode cX6_readsOrder 66 = .ok (.if_icmp .eq 7, 3) := by decide +kernel
theorem dX6_readsOrder_69 : decode cX6_readsOrder 69 = .ok (.iconst 1, 1) := by decide +kernel
theorem dX6_readsOrder_70 : decode cX6_readsOrder 70 = .ok (.goto 4, 3) := by decide +kernel
theorem dX6_readsOrder_73 : decode cX6_readsOrder 73 = .ok (.iconst 0, 1) := by decide +kernel
theorem dX6_readsOrder_74 : decode cX6_readsOrder 74 = .ok (.ireturn, 1) := by decide +kernel
theorem dX6_readsOrder_75 : decode cX6_readsOrder 75 = .ok (.aload_n 0, 1) := by decide +kernel
theorem dX6_readsOrder_76 : decode cX6_readsOrder 76 = .ok (.aload_n 0, 1) := by decide +kernel
theorem dX6_readsOrder_77 : decode cX6_readsOrder 77 = .ok (.bipush 120, 2) := by decide +kernel
theorem dX6_readsOrder_79 : decode cX6_readsOrder 79 = .ok (.invokevirtual 117, 3) := by decide +kernel
theorem dX6_readsOrder_82 : decode cX6_readsOrder 82 = .ok (.ifCond .eq 10, 3) := by decide +kernel
theorem dX6_readsOrder_85 : decode cX6_readsOrder 85 = .ok (.aload_n 0, 1) := by decide +kernel
theorem dX6_readsOrder_86 : decode cX6_readsOrder 86 = .ok (.invokevirtual 123, 3) := by decide +kernel
theorem dX6_readsOrder_89 : decode cX6_readsOrder 89 = .ok (.goto 5, 3) := by decide +kernel
theorem dX6_readsOrder_92 : decode cX6_readsOrder 92 = .ok (.bipush (-5), 2) := by decide +kernel
theorem dX6_readsOrder_94 : decode cX6_readsOrder 94 = .ok (.putfield 129, 3) := by decide +kernel
theorem dX6_readsOrder_97 : decode cX6_readsOrder 97 = .ok (.aload_n 0, 1) := by decide +kernel
theorem dX6_readsOrder_98 : decode cX6_readsOrder 98 = .ok (.aload_n 0, 1) := by decide +kernel
theorem dX6_readsOrder_99 : decode cX6_readsOrder 99 = .ok (.getfield 129, 3) := by decide +kernel
theorem dX6_readsOrder_102 : decode cX6_readsOrder 102 = .ok (.bipush (-5), 2) := by decide +kernel
theorem dX6_readsOrder_104 : decode cX6_readsOrder 104 = .ok (.if_icmp .eq 38, 3) := by decide +kernel
theorem dX6_readsOrder_107 : decode cX6_readsOrder 107 = .ok (.aload_n 0, 1) := by decide +kernel
theorem dX6_readsOrder_108 : decode cX6_readsOrder 108 = .ok (.bipush 58, 2) := by decide +kernel
theorem dX6_readsOrder_110 : decode cX6_readsOrder 110 = .ok (.invokevirtual 117, 3) := by decide +kernel
theorem dX6_readsOrder_113 : decode cX6_readsOrder 113 = .ok (.ifCond .eq 29, 3) := by decide +kernel
theorem dX6_readsOrder_116 : decode cX6_readsOrder 116 = .ok (.aload_n 0, 1) := by decide +kernel
theorem dX6_readsOrder_117 : decode cX6_readsOrder 117 = .ok (.bipush 49, 2) := by decide +kernel
theorem dX6_readsOrder_119 : decode cX6_readsOrder 119 = .ok (.bipush 57, 2) := by decide +kernel
theorem dX6_readsOrder_121 : decode cX6_readsOrder 121 = .ok (.invokevirtual 113, 3) := by decide +kernel
theorem dX6_readsOrder_124 : decode cX6_readsOrder 124 = .ok (.ifCond .eq 18, 3) := by decide +kernel
theorem dX6_readsOrder_127 : decode cX6_readsOrder 127 = .ok (.aload_n 0, 1) := by decide +kernel
theorem dX6_readsOrder_128 : decode cX6_readsOrder 128 = .ok (.getfield 13, 3) := by decide +kernel
theorem dX6_readsOrder_131 : decode cX6_readsOrder 131 = .ok (.aload_n 0, 1) := by decide +kernel
theorem dX6_readsOrder_132 : decode cX6_readsOrder 132 = .ok (.getfield 110, 3) := by decide +kernel
theorem dX6_readsOrder_135 : decode cX6_readsOrder 135 = .ok (.iaload, 1) := by decide +kernel
theorem dX6_readsOrder_136 : decode cX6_readsOrder 136 = .ok (.bipush 48, 2) := by decide +kernel
theorem dX6_readsOrder_138 : decode cX6_readsOrder 138 = .ok (.isub, 1) := by decide +kernel
theorem dX6_readsOrder_139 : decode cX6_readsOrder 139 = .ok (.goto 5, 3) := by decide +kernel
theorem dX6_readsOrder_142 : decode cX6_readsOrder 142 = .ok (.bipush (-5), 2) := by decide +kernel
theorem dX6_readsOrder_144 : decode cX6_readsOrder 144 = .ok (.putfield 132, 3) := by decide +kernel
theorem dX6_readsOrder_147 : decode cX6_readsOrder 147 = .ok (.aload_n 0, 1) := by decide +kernel
theorem dX6_readsOrder_148 : decode cX6_readsOrder 148 = .ok (.dup, 1) := by decide +kernel
theorem dX6_readsOrder_149 : decode cX6_readsOrder 149 = .ok (.getfield 110, 3) := by decide +kernel
theorem dX6_readsOrder_152 : decode cX6_readsOrder 152 = .ok (.aload_n 0, 1) := by decide +kernel
theorem dX6_readsOrder_153 : decode cX6_readsOrder 153 = .ok (.getfield 132, 3) := by decide +kernel
theorem dX6_readsOrder_156 : decode cX6_readsOrder 156 = .ok (.bipush (-5), 2) := by decide +kernel
theorem dX6_readsOrder_158 : decode cX6_readsOrder 158 = .ok (.if_icmp .eq 7, 3) := by decide +kernel
theorem dX6_readsOrder_161 : decode cX6_readsOrder 161 = .ok (.iconst 1, 1) := by decide +kernel
theorem dX6_readsOrder_162 : decode cX6_readsOrder 162 = .ok (.goto 4, 3) := by decide +kernel
theorem dX6_readsOrder_165 : decode cX6_readsOrder 165 = .ok (.iconst 0, 1) := by decide +kernel
theorem dX6_readsOrder_166 : decode cX6_readsOrder 166 = .ok (.invokestatic 40, 3) := by decide +kernel
theorem dX6_readsOrder_169 : decode cX6_readsOrder 169 = .ok (.iadd, 1) := by decide +kernel
theorem dX6_readsOrder_170 : decode cX6_readsOrder 170 = .ok (.putfield 110, 3) := by decide +kernel
theorem dX6_readsOrder_173 : decode cX6_readsOrder 173 = .ok (.aload_n 0, 1) := by decide +kernel
theorem dX6_readsOrder_174 : decode cX6_readsOrder 174 = .ok (.getfield 132, 3) := by decide +kernel
theorem dX6_readsOrder_177 : decode cX6_readsOrder 177 = .ok (.bipush (-5), 2) := by decide +kernel
theorem dX6_readsOrder_179 : decode cX6_readsOrder 179 = .ok (.if_icmp .eq 7, 3) := by decide +kernel
theorem dX6_readsOrder_182 : decode cX6_readsOrder 182 = .ok (.iconst 1, 1) := by decide +kernel
theorem dX6_readsOrder_183 : decode cX6_readsOrder 183 = .ok (.goto 4, 3) := by decide +kernel
theorem dX6_readsOrder_186 : decode cX6_readsOrder 186 = .ok (.iconst 0, 1) := by decide +kernel
theorem dX6_readsOrder_187 : decode cX6_readsOrder 187 = .ok (.ireturn, 1) := by decide +kernel
set_option maxRecDepth 20000 in
theorem ggX6_fault_X6_readsOrder : GoodIn wsX6_fault wsX6_readsOrder := goodIn_r _ [7, 8, 9, 10, 11, 1, 12, 13, 14, 15, 6, 16, 17, 18, 19, 20, 2, 21, 22, 23, 24, 25, 26, 27, 28, 29, 30, 31, 32, 33, 34, 35, 36, 37, 38, 39, 40, 41, 42, 43] (by decide +kernel) (by decide +kernel)
set_option maxRecDepth 20000 in
theorem gX6_fault_X6_readsOrder : GoodIn wsX6_fault (wsV RX6 135 RX6 yX6_readsOrder wsX6_readsOrder) := goodIn_app (goodIn_of _ (by decide +kernel)) ggX6_fault_X6_readsOrder
set_option maxRecDepth 20000 in
theorem ggX6_fault_X6_takes : GoodIn wsX6_fault wsX6_takes := goodIn_r _ [16, 1, 17, 18, 19, 6, 20, 2, 11, 21, 22, 23, 24, 25, 26, 31, 32, 33, 34, 35, 36, 37, 38, 39, 40, 41, 42, 43] (by decide +kernel) (by decide +kernel)
set_option maxRecDepth 20000 in
theorem gX6_fault_X6_takes : GoodIn wsX6_fault (wsV RX6 117 RX6 yX6_takes wsX6_takes) := goodIn_app (goodIn_of _ (by decide +kernel)) ggX6_fault_X6_takes
theorem dX6_fault_0 : decode cX6_fault 0 = .ok (.aload_n 0, 1) := by decide +kernel
theorem dX6_fault_1 : decode cX6_fault 1 = .ok (.iconst 0, 1) := by decide +kernel
theorem dX6_fault_2 : decode cX6_fault 2 = .ok (.putfield 110, 3) := by decide +kernel
theorem dX6_fault_5 : decode cX6_fault 5 = .ok (.iconst 1, 1) := by decide +kernel
theorem dX6_fault_6 : decode cX6_fault 6 = .ok (.istore_n 1, 1) := by decide +kernel
theorem dX6_fault_7 : decode cX6_fault 7 = .ok (.iload_n 1, 1) := by decide +kernel
theorem dX6_fault_8 : decode cX6_fault 8 = .ok (.ifCond .eq 25, 3) := by decide +kernel
theorem dX6_fault_11 : decode cX6_fault 11 = .ok (.aload_n 0, 1) := by decide +kernel
theorem dX6_fault_12 : decode cX6_fault 12 = .ok (.invokevirtual 135, 3) := by decide +kernel
theorem dX6_fault_15 : decode cX6_fault 15 = .ok (.ifCond .ne 8, 3) := by decide +kernel
theorem dX6_fault_18 : decode cX6_fault 18 = .ok (.aload_n 0, 1) := by decide +kernel
theorem dX6_fault_19 : decode cX6_fault 19 = .ok (.getfield 110, 3) := by decide +kernel
theorem dX6_fault_22 : decode cX6_fault 22 = .ok (.ireturn, 1) := by decide +kernel
theorem dX6_fault_23 : decode cX6_fault 23 = .ok (.aload_n 0, 1) := by decide +kernel
theorem dX6_fault_24 : decode cX6_fault 24 = .ok (.bipush 44, 2) := by decide +kernel
theorem dX6_fault_26 : decode cX6_fault 26 = .ok (.invokevirtual 117, 3) := by decide +kernel
theorem dX6_fault_29 : decode cX6_fault 29 = .ok (.istore_n 1, 1) := by decide +kernel
theorem dX6_fault_30 : decode cX6_fault 30 = .ok (.goto (-23), 3) := by decide +kernel
theorem dX6_fault_33 : decode cX6_fault 33 = .ok (.aload_n 0, 1) := by decide +kernel
theorem dX6_fault_34 : decode cX6_fault 34 = .ok (.getfield 110, 3) := by decide +kernel
theorem dX6_fault_37 : decode cX6_fault 37 = .ok (.aload_n 0, 1) := by decide +kernel
theorem dX6_fault_38 : decode cX6_fault 38 = .ok (.getfield 107, 3) := by decide +kernel
theorem dX6_fault_41 : decode cX6_fault 41 = .ok (.if_icmp .ne 8, 3) := by decide +kernel
theorem dX6_fault_44 : decode cX6_fault 44 = .ok (.bipush (-5), 2) := by decide +kernel
theorem dX6_fault_46 : decode cX6_fault 46 = .ok (.goto 7, 3) := by decide +kernel
theorem dX6_fault_49 : decode cX6_fault 49 = .ok (.aload_n 0, 1) := by decide +kernel
theorem dX6_fault_50 : decode cX6_fault 50 = .ok (.getfield 110, 3) := by decide +kernel
theorem dX6_fault_53 : decode cX6_fault 53 = .ok (.ireturn, 1) := by decide +kernel
set_option maxRecDepth 20000 in
theorem ggX6_orderError_X6_mendError : GoodIn wsX6_orderError wsX6_mendError := goodIn_r _ [9, 10, 11, 12, 13, 8, 14, 15, 16, 17, 18, 19, 20, 21, 22, 23, 24, 37, 38, 39, 40, 41, 42, 43, 44, 45, 46, 47, 48, 49] (by decide +kernel) (by decide +kernel)
set_option maxRecDepth 20000 in
theorem gX6_orderError_X6_mendError : GoodIn wsX6_orderError (wsV RX6 81 RX6 yX6_mendError wsX6_mendError) := goodIn_app (goodIn_of _ (by decide +kernel)) ggX6_orderError_X6_mendError
set_option maxRecDepth 20000 in
theorem ggX6_orderError_X6_stampError : GoodIn wsX6_orderError wsX6_stampError := goodIn_r _ [28, 10, 11, 12, 13, 8, 14, 15, 16, 17, 18, 19, 20, 37, 38, 39, 40, 41, 42, 43, 44, 45, 46, 47, 48, 49] (by decide +kernel) (by decide +kernel)
set_option maxRecDepth 20000 in
theorem gX6_orderError_X6_stampError : GoodIn wsX6_orderError (wsV RX6 87 RX6 yX6_stampError wsX6_stampError) := goodIn_app (goodIn_of _ (by decide +kernel)) ggX6_orderError_X6_stampError
set_option maxRecDepth 20000 in
theorem ggX6_orderError_X6_strikeError : GoodIn wsX6_orderError wsX6_strikeError := goodIn_r _ [32, 15, 16, 8, 17, 33, 34, 35, 36, 10, 11, 12, 13, 14, 18, 19, 20, 37, 38, 39, 40, 41, 42, 43, 44, 45, 46, 47, 48, 49] (by decide +kernel) (by decide +kernel)
set_option maxRecDepth 20000 in
theorem gX6_orderError_X6_strikeError : GoodIn wsX6_orderError (wsV RX6 77 RX6 yX6_strikeError wsX6_strikeError) := goodIn_app (goodIn_of _ (by decide +kernel)) ggX6_orderError_X6_strikeError
theorem dX6_orderError_0 : decode cX6_orderError 0 = .ok (.aload_n 0, 1) := by decide +kernel
theorem dX6_orderError_1 : decode cX6_orderError 1 = .ok (.getfield 120, 3) := by decide +kernel
theorem dX6_orderError_4 : decode cX6_orderError 4 = .ok (.bipush 116, 2) := by decide +kernel
theorem dX6_orderError_6 : decode cX6_orderError 6 = .ok (.if_icmp .ne 14, 3) := by decide +kernel
theorem dX6_orderError_9 : decode cX6_orderError 9 = .ok (.aload_n 0, 1) := by decide +kernel
theorem dX6_orderError_10 : decode cX6_orderError 10 = .ok (.aload_n 0, 1) := by decide +kernel
theorem dX6_orderError_11 : decode cX6_orderError 11 = .ok (.getfield 126, 3) := by decide +kernel
theorem dX6_orderError_14 : decode cX6_orderError 14 = .ok (.invokevirtual 81, 3) := by decide +kernel
theorem dX6_orderError_17 : decode cX6_orderError 17 = .ok (.goto 39, 3) := by decide +kernel
theorem dX6_orderError_20 : decode cX6_orderError 20 = .ok (.aload_n 0, 1) := by decide +kernel
theorem dX6_orderError_21 : decode cX6_orderError 21 = .ok (.getfield 120, 3) := by decide +kernel
theorem dX6_orderError_24 : decode cX6_orderError 24 = .ok (.bipush 115, 2) := by decide +kernel
theorem dX6_orderError_26 : decode cX6_orderError 26 = .ok (.if_icmp .ne 14, 3) := by decide +kernel
theorem dX6_orderError_29 : decode cX6_orderError 29 = .ok (.aload_n 0, 1) := by decide +kernel
theorem dX6_orderError_30 : decode cX6_orderError 30 = .ok (.aload_n 0, 1) := by decide +kernel
theorem dX6_orderError_31 : decode cX6_orderError 31 = .ok (.getfield 126, 3) := by decide +kernel
theorem dX6_orderError_34 : decode cX6_orderError 34 = .ok (.invokevirtual 87, 3) := by decide +kernel
theorem dX6_orderError_37 : decode cX6_orderError 37 = .ok (.goto 19, 3) := by decide +kernel
theorem dX6_orderError_40 : decode cX6_orderError 40 = .ok (.aload_n 0, 1) := by decide +kernel
theorem dX6_orderError_41 : decode cX6_orderError 41 = .ok (.aload_n 0, 1) := by decide +kernel
theorem dX6_orderError_42 : decode cX6_orderError 42 = .ok (.getfield 126, 3) := by decide +kernel
theorem dX6_orderError_45 : decode cX6_orderError 45 = .ok (.aload_n 0, 1) := by decide +kernel
theorem dX6_orderError_46 : decode cX6_orderError 46 = .ok (.getfield 129, 3) := by decide +kernel
theorem dX6_orderError_49 : decode cX6_orderError 49 = .ok (.aload_n 0, 1) := by decide +kernel
theorem dX6_orderError_50 : decode cX6_orderError 50 = .ok (.getfield 132, 3) := by decide +kernel
theorem dX6_orderError_53 : decode cX6_orderError 53 = .ok (.invokevirtual 77, 3) := by decide +kernel
theorem dX6_orderError_56 : decode cX6_orderError 56 = .ok (.ireturn, 1) := by decide +kernel
set_option maxRecDepth 20000 in
theorem ggX6_does_X6_mends : GoodIn wsX6_does wsX6_mends := goodIn_r _ [9, 10, 11, 12, 8, 13, 14, 15, 16, 17, 36, 37, 38, 39, 40, 41, 42, 43, 44, 45, 46, 47, 48] (by decide +kernel) (by decide +kernel)
set_option maxRecDepth 20000 in
theorem gX6_does_X6_mends : GoodIn wsX6_does (wsV RX6 84 RX6 yX6_mends wsX6_mends) := goodIn_app (goodIn_of _ (by decide +kernel)) ggX6_does_X6_mends
set_option maxRecDepth 20000 in
theorem ggX6_does_X6_stamps : GoodIn wsX6_does wsX6_stamps := goodIn_r _ [21, 10, 11, 12, 8, 13, 22, 23, 24, 25, 36, 37, 38, 39, 40, 41, 42, 43, 44, 45, 46, 47, 48] (by decide +kernel) (by decide +kernel)
set_option maxRecDepth 20000 in
theorem gX6_does_X6_stamps : GoodIn wsX6_does (wsV RX6 90 RX6 yX6_stamps wsX6_stamps) := goodIn_app (goodIn_of _ (by decide +kernel)) ggX6_does_X6_stamps
set_option maxRecDepth 20000 in
theorem ggX6_does_X6_strikes : GoodIn wsX6_does wsX6_strikes := goodIn_r _ [29, 10, 11, 12, 8, 13, 30, 31, 32, 22, 23, 24, 25, 33, 34, 35, 36, 37, 38, 39, 40, 41, 42, 43, 44, 45, 46, 47, 48] (by decide +kernel) (by decide +kernel)
set_option maxRecDepth 20000 in
theorem gX6_does_X6_strikes : GoodIn wsX6_does (wsV RX6 51 RX6 yX6_strikes wsX6_strikes) := goodIn_app (goodIn_of _ (by decide +kernel)) ggX6_does_X6_strikes
theorem dX6_does_0 : decode cX6_does 0 = .ok (.aload_n 0, 1) := by decide +kernel
theorem dX6_does_1 : decode cX6_does 1 = .ok (.getfield 120, 3) := by decide +kernel
theorem dX6_does_4 : decode cX6_does 4 = .ok (.bipush 116, 2) := by decide +kernel
theorem dX6_does_6 : decode cX6_does 6 = .ok (.if_icmp .ne 14, 3) := by decide +kernel
theorem dX6_does_9 : decode cX6_does 9 = .ok (.aload_n 0, 1) := by decide +kernel
theorem dX6_does_10 : decode cX6_does 10 = .ok (.aload_n 0, 1) := by decide +kernel
theorem dX6_does_11 : decode cX6_does 11 = .ok (.getfield 126, 3) := by decide +kernel
theorem dX6_does_14 : decode cX6_does 14 = .ok (.invokevirtual 84, 3) := by decide +kernel
theorem dX6_does_17 : decode cX6_does 17 = .ok (.goto 40, 3) := by decide +kernel
theorem dX6_does_20 : decode cX6_does 20 = .ok (.aload_n 0, 1) := by decide +kernel
theorem dX6_does_21 : decode cX6_does 21 = .ok (.getfield 120, 3) := by decide +kernel
theorem dX6_does_24 : decode cX6_does 24 = .ok (.bipush 115, 2) := by decide +kernel
theorem dX6_does_26 : decode cX6_does 26 = .ok (.if_icmp .ne 14, 3) := by decide +kernel
theorem dX6_does_29 : decode cX6_does 29 = .ok (.aload_n 0, 1) := by decide +kernel
theorem dX6_does_30 : decode cX6_does 30 = .ok (.aload_n 0, 1) := by decide +kernel
theorem dX6_does_31 : decode cX6_does 31 = .ok (.getfield 126, 3) := by decide +kernel
theorem dX6_does_34 : decode cX6_does 34 = .ok (.invokevirtual 90, 3) := by decide +kernel
theorem dX6_does_37 : decode cX6_does 37 = .ok (.goto 20, 3) := by decide +kernel
theorem dX6_does_40 : decode cX6_does 40 = .ok (.aload_n 0, 1) := by decide +kernel
theorem dX6_does_41 : decode cX6_does 41 = .ok (.iconst 0, 1) := by decide +kernel
theorem dX6_does_42 : decode cX6_does 42 = .ok (.aload_n 0, 1) := by decide +kernel
theorem dX6_does_43 : decode cX6_does 43 = .ok (.getfield 126, 3) := by decide +kernel
theorem dX6_does_46 : decode cX6_does 46 = .ok (.aload_n 0, 1) := by decide +kernel
theorem dX6_does_47 : decode cX6_does 47 = .ok (.getfield 129, 3) := by decide +kernel
theorem dX6_does_50 : decode cX6_does 50 = .ok (.aload_n 0, 1) := by decide +kernel
theorem dX6_does_51 : decode cX6_does 51 = .ok (.getfield 132, 3) := by decide +kernel
theorem dX6_does_54 : decode cX6_does 54 = .ok (.invokevirtual 51, 3) := by decide +kernel
theorem dX6_does_57 : decode cX6_does 57 = .ok (.ireturn, 1) := by decide +kernel
set_option maxRecDepth 20000 in
theorem ggX6_run_X6_fault : GoodIn wsX6_run wsX6_fault := goodIn_r _ [6, 1, 7, 8, 9, 10, 5, 11, 12, 13, 14, 15, 16, 17, 18, 19, 20, 21, 22, 23, 24, 25, 26, 27, 28, 29, 30, 31, 32, 33, 34, 99, 100, 101, 102, 103, 104, 105, 106, 107, 108, 109, 110, 111] (by decide +kernel) (by decide +kernel)
set_option maxRecDepth 20000 in
theorem gX6_run_X6_fault : GoodIn wsX6_run (wsV RX6 139 RX6 yX6_fault wsX6_fault) := goodIn_app (goodIn_of _ (by decide +kernel)) ggX6_run_X6_fault
set_option maxRecDepth 20000 in
theorem ggX6_run_X6_records : GoodIn wsX6_run wsX6_records := goodIn_r _ [38, 39, 40, 41, 42, 5, 43, 44, 99, 100, 101, 102, 103, 104, 105, 106, 107, 108, 109, 110, 111] (by decide +kernel) (by decide +kernel)
set_option maxRecDepth 20000 in
theorem gX6_run_X6_records : GoodIn wsX6_run (wsV RX6 74 RX6 yX6_records wsX6_records) := goodIn_app (goodIn_of _ (by decide +kernel)) ggX6_run_X6_records
set_option maxRecDepth 20000 in
theorem ggX6_run_X6_readsOrder : GoodIn wsX6_run wsX6_readsOrder := goodIn_r _ [11, 12, 13, 14, 15, 1, 16, 17, 18, 19, 5, 20, 21, 22, 23, 24, 7, 25, 26, 27, 28, 29, 30, 31, 32, 33, 34, 99, 100, 101, 102, 103, 104, 105, 106, 107, 108, 109, 110, 111] (by decide +kernel) (by decide +kernel)
set_option maxRecDepth 20000 in
theorem gX6_run_X6_readsOrder : GoodIn wsX6_run (wsV RX6 135 RX6 yX6_readsOrder wsX6_readsOrder) := goodIn_app (goodIn_of _ (by decide +kernel)) ggX6_run_X6_readsOrder
set_option maxRecDepth 20000 in
theorem ggX6_run_X6_orderError : GoodIn wsX6_run wsX6_orderError := goodIn_r _ [48, 12, 13, 14, 16, 49, 50, 51, 5, 52, 44, 53, 54, 55, 56, 25, 26, 27, 57, 58, 59, 60, 61, 62, 63, 64, 65, 66, 67, 68, 69, 70, 71, 72, 73, 74, 75, 99, 100, 101, 102, 103, 104, 105, 106, 107, 108, 109, 110, 111] (by decide +kernel) (by decide +kernel)
set_option maxRecDepth 20000 in
theorem gX6_run_X6_orderError : GoodIn wsX6_run (wsV RX6 142 RX6 yX6_orderError wsX6_orderError) := goodIn_app (goodIn_of _ (by decide +kernel)) ggX6_run_X6_orderError
set_option maxRecDepth 20000 in
theorem ggX6_run_X6_does : GoodIn wsX6_run wsX6_does := goodIn_r _ [79, 12, 13, 14, 16, 80, 81, 82, 5, 83, 44, 57, 58, 59, 60, 61, 62, 63, 84, 85, 86, 87, 88, 89, 90, 91, 92, 93, 94, 95, 96, 97, 98, 28, 29, 30, 99, 100, 101, 102, 103, 104, 105, 106, 107, 108, 109, 110, 111] (by decide +kernel) (by decide +kernel)
set_option maxRecDepth 20000 in
theorem gX6_run_X6_does : GoodIn wsX6_run (wsV RX6 145 RX6 yX6_does wsX6_does) := goodIn_app (goodIn_of _ (by decide +kernel)) ggX6_run_X6_does
set_option maxRecDepth 20000 in
theorem ggX6_run_X6_flag : GoodIn wsX6_run wsX6_flag := goodIn_r _ [30] (by decide +kernel) (by decide +kernel)
set_option maxRecDepth 20000 in
theorem gX6_run_X6_flag : GoodIn wsX6_run (va_wsS RX6 40 yX6_flag wsX6_flag) := goodIn_app (goodIn_of _ (by decide +kernel)) ggX6_run_X6_flag
set_option maxRecDepth 20000 in
theorem ggX6_run_X6_takes : GoodIn wsX6_run wsX6_takes := goodIn_r _ [20, 1, 21, 22, 23, 5, 24, 7, 15, 25, 26, 27, 28, 29, 30, 99, 100, 101, 102, 103, 104, 105, 106, 107, 108, 109, 110, 111] (by decide +kernel) (by decide +kernel)
set_option maxRecDepth 20000 in
theorem gX6_run_X6_takes : GoodIn wsX6_run (wsV RX6 117 RX6 yX6_takes wsX6_takes) := goodIn_app (goodIn_of _ (by decide +kernel)) ggX6_run_X6_takes
theorem dX6_run_0 : decode cX6_run 0 = .ok (.aload_n 0, 1) := by decide +kernel
theorem dX6_run_1 : decode cX6_run 1 = .ok (.invokevirtual 139, 3) := by decide +kernel
theorem dX6_run_4 : decode cX6_run 4 = .ok (.istore_n 1, 1) := by decide +kernel
theorem dX6_run_5 : decode cX6_run 5 = .ok (.iload_n 1, 1) := by decide +kernel
theorem dX6_run_6 : decode cX6_run 6 = .ok (.bipush (-5), 2) := by decide +kernel
theorem dX6_run_8 : decode cX6_run 8 = .ok (.if_icmp .eq 8, 3) := by decide +kernel
theorem dX6_run_11 : decode cX6_run 11 = .ok (.bipush (-100), 2) := by decide +kernel
theorem dX6_run_13 : decode cX6_run 13 = .ok (.iload_n 1, 1) := by decide +kernel
theorem dX6_run_14 : decode cX6_run 14 = .ok (.isub, 1) := by decide +kernel
theorem dX6_run_15 : decode cX6_run 15 = .ok (.ireturn, 1) := by decide +kernel
theorem dX6_run_16 : decode cX6_run 16 = .ok (.aload_n 0, 1) := by decide +kernel
theorem dX6_run_17 : decode cX6_run 17 = .ok (.invokevirtual 74, 3) := by decide +kernel
theorem dX6_run_20 : decode cX6_run 20 = .ok (.aload_n 0, 1) := by decide +kernel
theorem dX6_run_21 : decode cX6_run 21 = .ok (.iconst 0, 1) := by decide +kernel
theorem dX6_run_22 : decode cX6_run 22 = .ok (.putfield 110, 3) := by decide +kernel
theorem dX6_run_25 : decode cX6_run 25 = .ok (.iconst 0, 1) := by decide +kernel
theorem dX6_run_26 : decode cX6_run 26 = .ok (.istore_n 2, 1) := by decide +kernel
theorem dX6_run_27 : decode cX6_run 27 = .ok (.iconst 1, 1) := by decide +kernel
theorem dX6_run_28 : decode cX6_run 28 = .ok (.istore_n 3, 1) := by decide +kernel
theorem dX6_run_29 : decode cX6_run 29 = .ok (.iload_n 3, 1) := by decide +kernel
theorem dX6_run_30 : decode cX6_run 30 = .ok (.ifCond .eq 71, 3) := by decide +kernel
theorem dX6_run_33 : decode cX6_run 33 = .ok (.aload_n 0, 1) := by decide +kernel
theorem dX6_run_34 : decode cX6_run 34 = .ok (.invokevirtual 135, 3) := by decide +kernel
theorem dX6_run_37 : decode cX6_run 37 = .ok (.ifCond .eq 14, 3) := by decide +kernel
theorem dX6_run_40 : decode cX6_run 40 = .ok (.aload_n 0, 1) := by decide +kernel
theorem dX6_run_41 : decode cX6_run 41 = .ok (.invokevirtual 142, 3) := by decide +kernel
theorem dX6_run_44 : decode cX6_run 44 = .ok (.ifCond .ne 7, 3) := by decide +kernel
theorem dX6_run_47 : decode cX6_run 47 = .ok (.iconst 1, 1) := by decide +kernel
theorem dX6_run_48 : decode cX6_run 48 = .ok (.goto 4, 3) := by decide +kernel
theorem dX6_run_51 : decode cX6_run 51 = .ok (.iconst 0, 1) := by decide +kernel
theorem dX6_run_52 : decode cX6_run 52 = .ok (.istore 4, 2) := by decide +kernel
theorem dX6_run_54 : decode cX6_run 54 = .ok (.iload 4, 2) := by decide +kernel
theorem dX6_run_56 : decode cX6_run 56 = .ok (.ifCond .eq 10, 3) := by decide +kernel
theorem dX6_run_59 : decode cX6_run 59 = .ok (.aload_n 0, 1) := by decide +kernel
theorem dX6_run_60 : decode cX6_run 60 = .ok (.invokevirtual 145, 3) := by decide +kernel
theorem dX6_run_63 : decode cX6_run 63 = .ok (.goto 5, 3) := by decide +kernel
theorem dX6_run_66 : decode cX6_run 66 = .ok (.bipush (-5), 2) := by decide +kernel
theorem dX6_run_68 : decode cX6_run 68 = .ok (.istore 5, 2) := by decide +kernel
theorem dX6_run_70 : decode cX6_run 70 = .ok (.iload_n 2, 1) := by decide +kernel
theorem dX6_run_71 : decode cX6_run 71 = .ok (.iload 4, 2) := by decide +kernel
theorem dX6_run_73 : decode cX6_run 73 = .ok (.invokestatic 40, 3) := by decide +kernel
theorem dX6_run_76 : decode cX6_run 76 = .ok (.iadd, 1) := by decide +kernel
theorem dX6_run_77 : decode cX6_run 77 = .ok (.istore_n 2, 1) := by decide +kernel
theorem dX6_run_78 : decode cX6_run 78 = .ok (.iload 4, 2) := by decide +kernel
theorem dX6_run_80 : decode cX6_run 80 = .ok (.ifCond .eq 16, 3) := by decide +kernel
theorem dX6_run_83 : decode cX6_run 83 = .ok (.aload_n 0, 1) := by decide +kernel
theorem dX6_run_84 : decode cX6_run 84 = .ok (.bipush 44, 2) := by decide +kernel
theorem dX6_run_86 : decode cX6_run 86 = .ok (.invokevirtual 117, 3) := by decide +kernel
theorem dX6_run_89 : decode cX6_run 89 = .ok (.ifCond .eq 7, 3) := by decide +kernel
theorem dX6_run_92 : decode cX6_run 92 = .ok (.iconst 1, 1) := by decide +kernel
theorem dX6_run_93 : decode cX6_run 93 = .ok (.goto 4, 3) := by decide +kernel
theorem dX6_run_96 : decode cX6_run 96 = .ok (.iconst 0, 1) := by decide +kernel
theorem dX6_run_97 : decode cX6_run 97 = .ok (.istore_n 3, 1) := by decide +kernel
theorem dX6_run_98 : decode cX6_run 98 = .ok (.goto (-69), 3) := by decide +kernel
theorem dX6_run_101 : decode cX6_run 101 = .ok (.iload_n 2, 1) := by decide +kernel
theorem dX6_run_102 : decode cX6_run 102 = .ok (.ireturn, 1) := by decide +kernel
set_option maxRecDepth 20000 in
theorem ggX6_undo_X6_copies : GoodIn wsX6_undo wsX6_copies := goodIn_r _ [6, 7, 8, 9, 10, 11, 12, 13, 14, 15, 16, 17, 18, 19, 20] (by decide +kernel) (by decide +kernel)
set_option maxRecDepth 20000 in
theorem gX6_undo_X6_copies : GoodIn wsX6_undo (wsV RX6 26 RX6 yX6_copies wsX6_copies) := goodIn_app (goodIn_of _ (by decide +kernel)) ggX6_undo_X6_copies
theorem dX6_undo_0 : decode cX6_undo 0 = .ok (.aload_n 0, 1) := by decide +kernel
theorem dX6_undo_1 : decode cX6_undo 1 = .ok (.getfield 22, 3) := by decide +kernel
theorem dX6_undo_4 : decode cX6_undo 4 = .ok (.ifCond .ne 6, 3) := by decide +kernel
theorem dX6_undo_7 : decode cX6_undo 7 = .ok (.bipush (-5), 2) := by decide +kernel
theorem dX6_undo_9 : decode cX6_undo 9 = .ok (.ireturn, 1) := by decide +kernel
theorem dX6_undo_10 : decode cX6_undo 10 = .ok (.aload_n 0, 1) := by decide +kernel
theorem dX6_undo_11 : decode cX6_undo 11 = .ok (.aload_n 0, 1) := by decide +kernel
theorem dX6_undo_12 : decode cX6_undo 12 = .ok (.getfield 22, 3) := by decide +kernel
theorem dX6_undo_15 : decode cX6_undo 15 = .ok (.iconst 0, 1) := by decide +kernel
theorem dX6_undo_16 : decode cX6_undo 16 = .ok (.invokevirtual 26, 3) := by decide +kernel
theorem dX6_undo_19 : decode cX6_undo 19 = .ok (.aload_n 0, 1) := by decide +kernel
theorem dX6_undo_20 : decode cX6_undo 20 = .ok (.dup, 1) := by decide +kernel
theorem dX6_undo_21 : decode cX6_undo 21 = .ok (.getfield 22, 3) := by decide +kernel
theorem dX6_undo_24 : decode cX6_undo 24 = .ok (.iconst 1, 1) := by decide +kernel
theorem dX6_undo_25 : decode cX6_undo 25 = .ok (.isub, 1) := by decide +kernel
theorem dX6_undo_26 : decode cX6_undo 26 = .ok (.putfield 22, 3) := by decide +kernel
theorem dX6_undo_29 : decode cX6_undo 29 = .ok (.aload_n 0, 1) := by decide +kernel
theorem dX6_undo_30 : decode cX6_undo 30 = .ok (.getfield 22, 3) := by decide +kernel
theorem dX6_undo_33 : decode cX6_undo 33 = .ok (.ireturn, 1) := by decide +kernel
set_option maxRecDepth 20000 in
theorem ggX6_conkers_X6_at : GoodIn wsX6_conkers wsX6_at := goodIn_r _ [5] (by decide +kernel) (by decide +kernel)
set_option maxRecDepth 20000 in
theorem gX6_conkers_X6_at : GoodIn wsX6_conkers (va_wsS RX6 30 yX6_at wsX6_at) := goodIn_app (goodIn_of _ (by decide +kernel)) ggX6_conkers_X6_at
set_option maxRecDepth 20000 in
theorem ggX6_conkers_X6_flag : GoodIn wsX6_conkers wsX6_flag := goodIn_r _ [8] (by decide +kernel) (by decide +kernel)
set_option maxRecDepth 20000 in
theorem gX6_conkers_X6_flag : GoodIn wsX6_conkers (va_wsS RX6 40 yX6_flag wsX6_flag) := goodIn_app (goodIn_of _ (by decide +kernel)) ggX6_conkers_X6_flag
theorem dX6_conkers_0 : decode cX6_conkers 0 = .ok (.iconst 0, 1) := by decide +kernel
theorem dX6_conkers_1 : decode cX6_conkers 1 = .ok (.istore_n 3, 1) := by decide +kernel
theorem dX6_conkers_2 : decode cX6_conkers 2 = .ok (.iconst 0, 1) := by decide +kernel
theorem dX6_conkers_3 : decode cX6_conkers 3 = .ok (.istore 4, 2) := by decide +kernel
theorem dX6_conkers_5 : decode cX6_conkers 5 = .ok (.iload 4, 2) := by decide +kernel
theorem dX6_conkers_7 : decode cX6_conkers 7 = .ok (.aload_n 0, 1) := by decide +kernel
theorem dX6_conkers_8 : decode cX6_conkers 8 = .ok (.getfield 7, 3) := by decide +kernel
theorem dX6_conkers_11 : decode cX6_conkers 11 = .ok (.iconst 0, 1) := by decide +kernel
theorem dX6_conkers_12 : decode cX6_conkers 12 = .ok (.iaload, 1) := by decide +kernel
theorem dX6_conkers_13 : decode cX6_conkers 13 = .ok (.if_icmp .ge 59, 3) := by decide +kernel
theorem dX6_conkers_16 : decode cX6_conkers 16 = .ok (.iconst 0, 1) := by decide +kernel
theorem dX6_conkers_17 : decode cX6_conkers 17 = .ok (.iload 4, 2) := by decide +kernel
theorem dX6_conkers_19 : decode cX6_conkers 19 = .ok (.invokestatic 30, 3) := by decide +kernel
theorem dX6_conkers_22 : decode cX6_conkers 22 = .ok (.istore 5, 2) := by decide +kernel
theorem dX6_conkers_24 : decode cX6_conkers 24 = .ok (.iload_n 3, 1) := by decide +kernel
theorem dX6_conkers_25 : decode cX6_conkers 25 = .ok (.aload_n 0, 1) := by decide +kernel
theorem dX6_conkers_26 : decode cX6_conkers 26 = .ok (.getfield 7, 3) := by decide +kernel
theorem dX6_conkers_29 : decode cX6_conkers 29 = .ok (.iload 5, 2) := by decide +kernel
theorem dX6_conkers_31 : decode cX6_conkers 31 = .ok (.bipush 6, 2) := by decide +kernel
theorem dX6_conkers_33 : decode cX6_conkers 33 = .ok (.iadd, 1) := by decide +kernel
theorem dX6_conkers_34 : decode cX6_conkers 34 = .ok (.iaload, 1) := by decide +kernel
theorem dX6_conkers_35 : decode cX6_conkers 35 = .ok (.iload_n 2, 1) := by decide +kernel
theorem dX6_conkers_36 : decode cX6_conkers 36 = .ok (.if_icmp .ne 24, 3) := by decide +kernel
theorem dX6_conkers_39 : decode cX6_conkers 39 = .ok (.iload_n 1, 1) := by decide +kernel
theorem dX6_conkers_40 : decode cX6_conkers 40 = .ok (.bipush (-5), 2) := by decide +kernel
theorem dX6_conkers_42 : decode cX6_conkers 42 = .ok (.if_icmp .eq 14, 3) := by decide +kernel
theorem dX6_conkers_45 : decode cX6_conkers 45 = .ok (.aload_n 0, 1) := by decide +kernel
theorem dX6_conkers_46 : decode cX6_conkers 46 = .ok (.getfield 7, 3) := by decide +kernel
theorem dX6_conkers_49 : decode cX6_conkers 49 = .ok (.iload 5, 2) := by decide +kernel
theorem dX6_conkers_51 : decode cX6_conkers 51 = .ok (.iaload, 1) := by decide +kernel
theorem dX6_conkers_52 : decode cX6_conkers 52 = .ok (.iload_n 1, 1) := by decide +kernel
theorem dX6_conkers_53 : decode cX6_conkers 53 = .ok (.if_icmp .ne 7, 3) := by decide +kernel
theorem dX6_conkers_56 : decode cX6_conkers 56 = .ok (.iconst 1, 1) := by decide +kernel
theorem dX6_conkers_57 : decode cX6_conkers 57 = .ok (.goto 4, 3) := by decide +kernel
theorem dX6_conkers_60 : decode cX6_conkers 60 = .ok (.iconst 0, 1) := by decide +kernel
theorem dX6_conkers_61 : decode cX6_conkers 61 = .ok (.invokestatic 40, 3) := by decide +kernel
theorem dX6_conkers_64 : decode cX6_conkers 64 = .ok (.iadd, 1) := by decide +kernel
theorem dX6_conkers_65 : decode cX6_conkers 65 = .ok (.istore_n 3, 1) := by decide +kernel
theorem dX6_conkers_66 : decode cX6_conkers 66 = .ok (.iinc 4 1, 3) := by decide +kernel
theorem dX6_conkers_69 : decode cX6_conkers 69 = .ok (.goto (-64), 3) := by decide +kernel
theorem dX6_conkers_72 : decode cX6_conkers 72 = .ok (.iload_n 3, 1) := by decide +kernel
theorem dX6_conkers_73 : decode cX6_conkers 73 = .ok (.ireturn, 1) := by decide +kernel
set_option maxRecDepth 20000 in
theorem ggX6_save_X6_copies : GoodIn wsX6_save wsX6_copies := goodIn_r _ [6, 7, 18, 19, 20, 21, 22, 23, 24, 25, 26, 27, 28, 29, 30] (by decide +kernel) (by decide +kernel)
set_option maxRecDepth 20000 in
theorem gX6_save_X6_copies : GoodIn wsX6_save (wsV RX6 26 RX6 yX6_copies wsX6_copies) := goodIn_app (goodIn_of _ (by decide +kernel)) ggX6_save_X6_copies
set_option maxRecDepth 20000 in
theorem ggX6_save_X6_conkers : GoodIn wsX6_save wsX6_conkers := goodIn_r _ [11, 7, 12, 13, 5, 14, 15, 16, 17, 18, 19, 20, 21, 22, 23, 24, 25, 26, 27, 28, 29, 30] (by decide +kernel) (by decide +kernel)
set_option maxRecDepth 20000 in
theorem gX6_save_X6_conkers : GoodIn wsX6_save (wsV RX6 152 RX6 yX6_conkers wsX6_conkers) := goodIn_app (goodIn_of _ (by decide +kernel)) ggX6_save_X6_conkers
theorem dX6_save_0 : decode cX6_save 0 = .ok (.aload_n 0, 1) := by decide +kernel
theorem dX6_save_1 : decode cX6_save 1 = .ok (.iconst 0, 1) := by decide +kernel
theorem dX6_save_2 : decode cX6_save 2 = .ok (.bipush 6, 2) := by decide +kernel
theorem dX6_save_4 : decode cX6_save 4 = .ok (.invokevirtual 26, 3) := by decide +kernel
theorem dX6_save_7 : decode cX6_save 7 = .ok (.aload_n 0, 1) := by decide +kernel
theorem dX6_save_8 : decode cX6_save 8 = .ok (.iconst 1, 1) := by decide +kernel
theorem dX6_save_9 : decode cX6_save 9 = .ok (.putfield 148, 3) := by decide +kernel
theorem dX6_save_12 : decode cX6_save 12 = .ok (.aload_n 0, 1) := by decide +kernel
theorem dX6_save_13 : decode cX6_save 13 = .ok (.bipush (-5), 2) := by decide +kernel
theorem dX6_save_15 : decode cX6_save 15 = .ok (.iconst 0, 1) := by decide +kernel
theorem dX6_save_16 : decode cX6_save 16 = .ok (.invokevirtual 152, 3) := by decide +kernel
theorem dX6_save_19 : decode cX6_save 19 = .ok (.ireturn, 1) := by decide +kernel
set_option maxRecDepth 20000 in
theorem ggX6_restore_X6_records : GoodIn wsX6_restore wsX6_records := goodIn_r _ [6, 7, 8, 9, 10, 5, 11, 12, 23, 24, 25, 26, 27, 28, 29, 30, 31, 32, 33, 34, 35] (by decide +kernel) (by decide +kernel)
set_option maxRecDepth 20000 in
theorem gX6_restore_X6_records : GoodIn wsX6_restore (wsV RX6 74 RX6 yX6_records wsX6_records) := goodIn_app (goodIn_of _ (by decide +kernel)) ggX6_restore_X6_records
set_option maxRecDepth 20000 in
theorem ggX6_restore_X6_copies : GoodIn wsX6_restore wsX6_copies := goodIn_r _ [11, 12, 23, 24, 25, 26, 27, 28, 29, 30, 31, 32, 33, 34, 35] (by decide +kernel) (by decide +kernel)
set_option maxRecDepth 20000 in
theorem gX6_restore_X6_copies : GoodIn wsX6_restore (wsV RX6 26 RX6 yX6_copies wsX6_copies) := goodIn_app (goodIn_of _ (by decide +kernel)) ggX6_restore_X6_copies
set_option maxRecDepth 20000 in
theorem ggX6_restore_X6_conkers : GoodIn wsX6_restore wsX6_conkers := goodIn_r _ [16, 12, 17, 18, 5, 19, 20, 21, 22, 23, 24, 25, 26, 27, 28, 29, 30, 31, 32, 33, 34, 35] (by decide +kernel) (by decide +kernel)
set_option maxRecDepth 20000 in
theorem gX6_restore_X6_conkers : GoodIn wsX6_restore (wsV RX6 152 RX6 yX6_conkers wsX6_conkers) := goodIn_app (goodIn_of _ (by decide +kernel)) ggX6_restore_X6_conkers
theorem dX6_restore_0 : decode cX6_restore 0 = .ok (.aload_n 0, 1) := by decide +kernel
theorem dX6_restore_1 : decode cX6_restore 1 = .ok (.getfield 148, 3) := by decide +kernel
theorem dX6_restore_4 : decode cX6_restore 4 = .ok (.ifCond .ne 6, 3) := by decide +kernel
theorem dX6_restore_7 : decode cX6_restore 7 = .ok (.bipush (-4), 2) := by decide +kernel
theorem dX6_restore_9 : decode cX6_restore 9 = .ok (.ireturn, 1) := by decide +kernel
theorem dX6_restore_10 : decode cX6_restore 10 = .ok (.aload_n 0, 1) := by decide +kernel
theorem dX6_restore_11 : decode cX6_restore 11 = .ok (.invokevirtual 74, 3) := by decide +kernel
theorem dX6_restore_14 : decode cX6_restore 14 = .ok (.aload_n 0, 1) := by decide +kernel
theorem dX6_restore_15 : decode cX6_restore 15 = .ok (.bipush 6, 2) := by decide +kernel
theorem dX6_restore_17 : decode cX6_restore 17 = .ok (.iconst 0, 1) := by decide +kernel
theorem dX6_restore_18 : decode cX6_restore 18 = .ok (.invokevirtual 26, 3) := by decide +kernel
theorem dX6_restore_21 : decode cX6_restore 21 = .ok (.aload_n 0, 1) := by decide +kernel
theorem dX6_restore_22 : decode cX6_restore 22 = .ok (.bipush (-5), 2) := by decide +kernel
theorem dX6_restore_24 : decode cX6_restore 24 = .ok (.iconst 0, 1) := by decide +kernel
theorem dX6_restore_25 : decode cX6_restore 25 = .ok (.invokevirtual 152, 3) := by decide +kernel
theorem dX6_restore_28 : decode cX6_restore 28 = .ok (.ireturn, 1) := by decide +kernel
set_option maxRecDepth 20000 in
theorem ggX6_heirOf_X6_at : GoodIn wsX6_heirOf wsX6_at := goodIn_r _ [5] (by decide +kernel) (by decide +kernel)
set_option maxRecDepth 20000 in
theorem gX6_heirOf_X6_at : GoodIn wsX6_heirOf (va_wsS RX6 30 yX6_at wsX6_at) := goodIn_app (goodIn_of _ (by decide +kernel)) ggX6_heirOf_X6_at
end
section
set_option maxRecDepth 20000 in
theorem ggX6_heirOf_X6_flag : GoodIn wsX6_heirOf wsX6_flag := goodIn_r _ [8] (by decide +kernel) (by decide +kernel)
set_option maxRecDepth 20000 in
theorem gX6_heirOf_X6_flag : GoodIn wsX6_heirOf (va_wsS RX6 40 yX6_flag wsX6_flag) := goodIn_app (goodIn_of _ (by decide +kernel)) ggX6_heirOf_X6_flag
theorem dX6_heirOf_0 : decode cX6_heirOf 0 = .ok (.iconst 0, 1) := by decide +kernel
theorem dX6_heirOf_1 : decode cX6_heirOf 1 = .ok (.istore_n 2, 1) := by decide +kernel
theorem dX6_heirOf_2 : decode cX6_heirOf 2 = .ok (.iconst 0, 1) := by decide +kernel
theorem dX6_heirOf_3 : decode cX6_heirOf 3 = .ok (.istore_n 3, 1) := by decide +kernel
theorem dX6_heirOf_4 : decode cX6_heirOf 4 = .ok (.iload_n 3, 1) := by decide +kernel
theorem dX6_heirOf_5 : decode cX6_heirOf 5 = .ok (.aload_n 0, 1) := by decide +kernel
theorem dX6_heirOf_6 : decode cX6_heirOf 6 = .ok (.getfield 7, 3) := by decide +kernel
theorem dX6_heirOf_9 : decode cX6_heirOf 9 = .ok (.iconst 0, 1) := by decide +kernel
theorem dX6_heirOf_10 : decode cX6_heirOf 10 = .ok (.iaload, 1) := by decide +kernel
theorem dX6_heirOf_11 : decode cX6_heirOf 11 = .ok (.if_icmp .ge 37, 3) := by decide +kernel
theorem dX6_heirOf_14 : decode cX6_heirOf 14 = .ok (.iload_n 2, 1) := by decide +kernel
theorem dX6_heirOf_15 : decode cX6_heirOf 15 = .ok (.aload_n 0, 1) := by decide +kernel
theorem dX6_heirOf_16 : decode cX6_heirOf 16 = .ok (.getfield 7, 3) := by decide +kernel
theorem dX6_heirOf_19 : decode cX6_heirOf 19 = .ok (.iconst 0, 1) := by decide +kernel
theorem dX6_heirOf_20 : decode cX6_heirOf 20 = .ok (.iload_n 3, 1) := by decide +kernel
theorem dX6_heirOf_21 : decode cX6_heirOf 21 = .ok (.invokestatic 30, 3) := by decide +kernel
theorem dX6_heirOf_24 : decode cX6_heirOf 24 = .ok (.bipush 7, 2) := by decide +kernel
theorem dX6_heirOf_26 : decode cX6_heirOf 26 = .ok (.iadd, 1) := by decide +kernel
theorem dX6_heirOf_27 : decode cX6_heirOf 27 = .ok (.iaload, 1) := by decide +kernel
theorem dX6_heirOf_28 : decode cX6_heirOf 28 = .ok (.iload_n 1, 1) := by decide +kernel
theorem dX6_heirOf_29 : decode cX6_heirOf 29 = .ok (.if_icmp .ne 7, 3) := by decide +kernel
theorem dX6_heirOf_32 : decode cX6_heirOf 32 = .ok (.iconst 1, 1) := by decide +kernel
theorem dX6_heirOf_33 : decode cX6_heirOf 33 = .ok (.goto 4, 3) := by decide +kernel
theorem dX6_heirOf_36 : decode cX6_heirOf 36 = .ok (.iconst 0, 1) := by decide +kernel
theorem dX6_heirOf_37 : decode cX6_heirOf 37 = .ok (.invokestatic 40, 3) := by decide +kernel
theorem dX6_heirOf_40 : decode cX6_heirOf 40 = .ok (.iadd, 1) := by decide +kernel
theorem dX6_heirOf_41 : decode cX6_heirOf 41 = .ok (.istore_n 2, 1) := by decide +kernel
theorem dX6_heirOf_42 : decode cX6_heirOf 42 = .ok (.iinc 3 1, 3) := by decide +kernel
theorem dX6_heirOf_45 : decode cX6_heirOf 45 = .ok (.goto (-41), 3) := by decide +kernel
theorem dX6_heirOf_48 : decode cX6_heirOf 48 = .ok (.iload_n 2, 1) := by decide +kernel
theorem dX6_heirOf_49 : decode cX6_heirOf 49 = .ok (.ireturn, 1) := by decide +kernel
set_option maxRecDepth 20000 in
theorem ggX6_conker_X6_isConker : GoodIn wsX6_conker wsX6_isConker := goodIn_r _ [6, 1, 7, 8, 5, 9, 20, 21, 22, 23, 24, 25, 26, 27, 28, 29, 30, 31, 32] (by decide +kernel) (by decide +kernel)
set_option maxRecDepth 20000 in
theorem gX6_conker_X6_isConker : GoodIn wsX6_conker (wsV RX6 59 RX6 yX6_isConker wsX6_isConker) := goodIn_app (goodIn_of _ (by decide +kernel)) ggX6_conker_X6_isConker
set_option maxRecDepth 20000 in
theorem ggX6_conker_X6_in : GoodIn wsX6_conker wsX6_in := goodIn_r _ [9] (by decide +kernel) (by decide +kernel)
set_option maxRecDepth 20000 in
theorem gX6_conker_X6_in : GoodIn wsX6_conker (va_wsS RX6 55 yX6_in wsX6_in) := goodIn_app (goodIn_of _ (by decide +kernel)) ggX6_conker_X6_in
set_option maxRecDepth 20000 in
theorem ggX6_conker_X6_at : GoodIn wsX6_conker wsX6_at := goodIn_r _ [12] (by decide +kernel) (by decide +kernel)
set_option maxRecDepth 20000 in
theorem gX6_conker_X6_at : GoodIn wsX6_conker (va_wsS RX6 30 yX6_at wsX6_at) := goodIn_app (goodIn_of _ (by decide +kernel)) ggX6_conker_X6_at
set_option maxRecDepth 20000 in
theorem ggX6_conker_X6_heirOf : GoodIn wsX6_conker wsX6_heirOf := goodIn_r _ [16, 1, 10, 11, 5, 12, 17, 18, 19, 20, 21, 22, 23, 24, 25, 26, 27, 28, 29, 30, 31, 32] (by decide +kernel) (by decide +kernel)
set_option maxRecDepth 20000 in
theorem gX6_conker_X6_heirOf : GoodIn wsX6_conker (wsV RX6 155 RX6 yX6_heirOf wsX6_heirOf) := goodIn_app (goodIn_of _ (by decide +kernel)) ggX6_conker_X6_heirOf
theorem dX6_conker_0 : decode cX6_conker 0 = .ok (.aload_n 0, 1) := by decide +kernel
theorem dX6_conker_1 : decode cX6_conker 1 = .ok (.iload_n 1, 1) := by decide +kernel
theorem dX6_conker_2 : decode cX6_conker 2 = .ok (.invokevirtual 59, 3) := by decide +kernel
theorem dX6_conker_5 : decode cX6_conker 5 = .ok (.ifCond .ne 5, 3) := by decide +kernel
theorem dX6_conker_8 : decode cX6_conker 8 = .ok (.iconst (-1), 1) := by decide +kernel
theorem dX6_conker_9 : decode cX6_conker 9 = .ok (.ireturn, 1) := by decide +kernel
theorem dX6_conker_10 : decode cX6_conker 10 = .ok (.iload_n 2, 1) := by decide +kernel
theorem dX6_conker_11 : decode cX6_conker 11 = .ok (.iconst 0, 1) := by decide +kernel
theorem dX6_conker_12 : decode cX6_conker 12 = .ok (.bipush 7, 2) := by decide +kernel
theorem dX6_conker_14 : decode cX6_conker 14 = .ok (.invokestatic 55, 3) := by decide +kernel
theorem dX6_conker_17 : decode cX6_conker 17 = .ok (.ifCond .eq 18, 3) := by decide +kernel
theorem dX6_conker_20 : decode cX6_conker 20 = .ok (.aload_n 0, 1) := by decide +kernel
theorem dX6_conker_21 : decode cX6_conker 21 = .ok (.getfield 7, 3) := by decide +kernel
theorem dX6_conker_24 : decode cX6_conker 24 = .ok (.iconst 0, 1) := by decide +kernel
theorem dX6_conker_25 : decode cX6_conker 25 = .ok (.iload_n 1, 1) := by decide +kernel
theorem dX6_conker_26 : decode cX6_conker 26 = .ok (.invokestatic 30, 3) := by decide +kernel
theorem dX6_conker_29 : decode cX6_conker 29 = .ok (.iload_n 2, 1) := by decide +kernel
theorem dX6_conker_30 : decode cX6_conker 30 = .ok (.iadd, 1) := by decide +kernel
theorem dX6_conker_31 : decode cX6_conker 31 = .ok (.iaload, 1) := by decide +kernel
theorem dX6_conker_32 : decode cX6_conker 32 = .ok (.goto 19, 3) := by decide +kernel
theorem dX6_conker_35 : decode cX6_conker 35 = .ok (.iload_n 2, 1) := by decide +kernel
theorem dX6_conker_36 : decode cX6_conker 36 = .ok (.bipush 8, 2) := by decide +kernel
theorem dX6_conker_38 : decode cX6_conker 38 = .ok (.if_icmp .ne 11, 3) := by decide +kernel
theorem dX6_conker_41 : decode cX6_conker 41 = .ok (.aload_n 0, 1) := by decide +kernel
theorem dX6_conker_42 : decode cX6_conker 42 = .ok (.iload_n 1, 1) := by decide +kernel
theorem dX6_conker_43 : decode cX6_conker 43 = .ok (.invokevirtual 155, 3) := by decide +kernel
theorem dX6_conker_46 : decode cX6_conker 46 = .ok (.goto 5, 3) := by decide +kernel
theorem dX6_conker_49 : decode cX6_conker 49 = .ok (.bipush (-2), 2) := by decide +kernel
theorem dX6_conker_51 : decode cX6_conker 51 = .ok (.ireturn, 1) := by decide +kernel
set_option maxRecDepth 20000 in
theorem ggX6_victories_X6_at : GoodIn wsX6_victories wsX6_at := goodIn_r _ [5] (by decide +kernel) (by decide +kernel)
set_option maxRecDepth 20000 in
theorem gX6_victories_X6_at : GoodIn wsX6_victories (va_wsS RX6 30 yX6_at wsX6_at) := goodIn_app (goodIn_of _ (by decide +kernel)) ggX6_victories_X6_at
theorem dX6_victories_0 : decode cX6_victories 0 = .ok (.iconst 0, 1) := by decide +kernel
theorem dX6_victories_1 : decode cX6_victories 1 = .ok (.istore_n 2, 1) := by decide +kernel
theorem dX6_victories_2 : decode cX6_victories 2 = .ok (.iconst 0, 1) := by decide +kernel
theorem dX6_victories_3 : decode cX6_victories 3 = .ok (.istore_n 3, 1) := by decide +kernel
theorem dX6_victories_4 : decode cX6_victories 4 = .ok (.iload_n 3, 1) := by decide +kernel
theorem dX6_victories_5 : decode cX6_victories 5 = .ok (.aload_n 0, 1) := by decide +kernel
theorem dX6_victories_6 : decode cX6_victories 6 = .ok (.getfield 7, 3) := by decide +kernel
theorem dX6_victories_9 : decode cX6_victories 9 = .ok (.iconst 0, 1) := by decide +kernel
theorem dX6_victories_10 : decode cX6_victories 10 = .ok (.iaload, 1) := by decide +kernel
theorem dX6_victories_11 : decode cX6_victories 11 = .ok (.if_icmp .ge 49, 3) := by decide +kernel
theorem dX6_victories_14 : decode cX6_victories 14 = .ok (.iconst 0, 1) := by decide +kernel
theorem dX6_victories_15 : decode cX6_victories 15 = .ok (.iload_n 3, 1) := by decide +kernel
theorem dX6_victories_16 : decode cX6_victories 16 = .ok (.invokestatic 30, 3) := by decide +kernel
theorem dX6_victories_19 : decode cX6_victories 19 = .ok (.istore 4, 2) := by decide +kernel
theorem dX6_victories_21 : decode cX6_victories 21 = .ok (.iload_n 2, 1) := by decide +kernel
theorem dX6_victories_22 : decode cX6_victories 22 = .ok (.iload_n 1, 1) := by decide +kernel
theorem dX6_victories_23 : decode cX6_victories 23 = .ok (.bipush (-5), 2) := by decide +kernel
theorem dX6_victories_25 : decode cX6_victories 25 = .ok (.if_icmp .eq 14, 3) := by decide +kernel
theorem dX6_victories_28 : decode cX6_victories 28 = .ok (.aload_n 0, 1) := by decide +kernel
theorem dX6_victories_29 : decode cX6_victories 29 = .ok (.getfield 7, 3) := by decide +kernel
theorem dX6_victories_32 : decode cX6_victories 32 = .ok (.iload 4, 2) := by decide +kernel
theorem dX6_victories_34 : decode cX6_victories 34 = .ok (.iaload, 1) := by decide +kernel
theorem dX6_victories_35 : decode cX6_victories 35 = .ok (.iload_n 1, 1) := by decide +kernel
theorem dX6_victories_36 : decode cX6_victories 36 = .ok (.if_icmp .ne 15, 3) := by decide +kernel
theorem dX6_victories_39 : decode cX6_victories 39 = .ok (.aload_n 0, 1) := by decide +kernel
theorem dX6_victories_40 : decode cX6_victories 40 = .ok (.getfield 7, 3) := by decide +kernel
theorem dX6_victories_43 : decode cX6_victories 43 = .ok (.iload 4, 2) := by decide +kernel
theorem dX6_victories_45 : decode cX6_victories 45 = .ok (.iconst 4, 1) := by decide +kernel
theorem dX6_victories_46 : decode cX6_victories 46 = .ok (.iadd, 1) := by decide +kernel
theorem dX6_victories_47 : decode cX6_victories 47 = .ok (.iaload, 1) := by decide +kernel
theorem dX6_victories_48 : decode cX6_victories 48 = .ok (.goto 4, 3) := by decide +kernel
theorem dX6_victories_51 : decode cX6_victories 51 = .ok (.iconst 0, 1) := by decide +kernel
theorem dX6_victories_52 : decode cX6_victories 52 = .ok (.iadd, 1) := by decide +kernel
theorem dX6_victories_53 : decode cX6_victories 53 = .ok (.istore_n 2, 1) := by decide +kernel
theorem dX6_victories_54 : decode cX6_victories 54 = .ok (.iinc 3 1, 3) := by decide +kernel
theorem dX6_victories_57 : decode cX6_victories 57 = .ok (.goto (-53), 3) := by decide +kernel
theorem dX6_victories_60 : decode cX6_victories 60 = .ok (.iload_n 2, 1) := by decide +kernel
theorem dX6_victories_61 : decode cX6_victories 61 = .ok (.ireturn, 1) := by decide +kernel
set_option maxRecDepth 20000 in
theorem ggX6_player_X6_isPlayer : GoodIn wsX6_player wsX6_isPlayer := goodIn_r _ [5, 6, 7, 4, 8] (by decide +kernel) (by decide +kernel)
set_option maxRecDepth 20000 in
theorem gX6_player_X6_isPlayer : GoodIn wsX6_player (va_wsS RX6 71 yX6_isPlayer wsX6_isPlayer) := goodIn_app (goodIn_of _ (by decide +kernel)) ggX6_player_X6_isPlayer
set_option maxRecDepth 20000 in
theorem ggX6_player_X6_conkers : GoodIn wsX6_player wsX6_conkers := goodIn_r _ [12, 1, 13, 14, 4, 15, 16, 17, 18, 27, 28, 29, 30, 31, 32, 33, 34, 35, 36, 37, 38, 39] (by decide +kernel) (by decide +kernel)
set_option maxRecDepth 20000 in
theorem gX6_player_X6_conkers : GoodIn wsX6_player (wsV RX6 152 RX6 yX6_conkers wsX6_conkers) := goodIn_app (goodIn_of _ (by decide +kernel)) ggX6_player_X6_conkers
set_option maxRecDepth 20000 in
theorem ggX6_player_X6_victories : GoodIn wsX6_player wsX6_victories := goodIn_r _ [22, 1, 13, 14, 4, 15, 27, 28, 29, 30, 31, 32, 33, 34, 35, 36, 37, 38, 39] (by decide +kernel) (by decide +kernel)
set_option maxRecDepth 20000 in
theorem gX6_player_X6_victories : GoodIn wsX6_player (wsV RX6 158 RX6 yX6_victories wsX6_victories) := goodIn_app (goodIn_of _ (by decide +kernel)) ggX6_player_X6_victories
set_option maxRecDepth 20000 in
theorem ggX6_player_X6_best : GoodIn wsX6_player wsX6_best := goodIn_r _ [26, 1, 13, 14, 4, 15, 27, 28, 29, 30, 31, 32, 33, 34, 35, 36, 37, 38, 39] (by decide +kernel) (by decide +kernel)
set_option maxRecDepth 20000 in
theorem gX6_player_X6_best : GoodIn wsX6_player (wsV RX6 100 RX6 yX6_best wsX6_best) := goodIn_app (goodIn_of _ (by decide +kernel)) ggX6_player_X6_best
theorem dX6_player_0 : decode cX6_player 0 = .ok (.iload_n 1, 1) := by decide +kernel
theorem dX6_player_1 : decode cX6_player 1 = .ok (.invokestatic 71, 3) := by decide +kernel
theorem dX6_player_4 : decode cX6_player 4 = .ok (.ifCond .ne 5, 3) := by decide +kernel
theorem dX6_player_7 : decode cX6_player 7 = .ok (.iconst (-1), 1) := by decide +kernel
theorem dX6_player_8 : decode cX6_player 8 = .ok (.ireturn, 1) := by decide +kernel
theorem dX6_player_9 : decode cX6_player 9 = .ok (.iload_n 2, 1) := by decide +kernel
theorem dX6_player_10 : decode cX6_player 10 = .ok (.tableswitch 76 0 6 #[42, 42, 55, 55, 55, 64, 70], 42) := by decide +kernel
theorem dX6_player_52 : decode cX6_player 52 = .ok (.aload_n 0, 1) := by decide +kernel
theorem dX6_player_53 : decode cX6_player 53 = .ok (.getfield 7, 3) := by decide +kernel
theorem dX6_player_56 : decode cX6_player 56 = .ok (.iconst 4, 1) := by decide +kernel
theorem dX6_player_57 : decode cX6_player 57 = .ok (.iconst 2, 1) := by decide +kernel
theorem dX6_player_58 : decode cX6_player 58 = .ok (.iload_n 1, 1) := by decide +kernel
theorem dX6_player_59 : decode cX6_player 59 = .ok (.imul, 1) := by decide +kernel
theorem dX6_player_60 : decode cX6_player 60 = .ok (.iadd, 1) := by decide +kernel
theorem dX6_player_61 : decode cX6_player 61 = .ok (.iload_n 2, 1) := by decide +kernel
theorem dX6_player_62 : decode cX6_player 62 = .ok (.iadd, 1) := by decide +kernel
theorem dX6_player_63 : decode cX6_player 63 = .ok (.iaload, 1) := by decide +kernel
theorem dX6_player_64 : decode cX6_player 64 = .ok (.ireturn, 1) := by decide +kernel
theorem dX6_player_65 : decode cX6_player 65 = .ok (.aload_n 0, 1) := by decide +kernel
theorem dX6_player_66 : decode cX6_player 66 = .ok (.iload_n 1, 1) := by decide +kernel
theorem dX6_player_67 : decode cX6_player 67 = .ok (.iload_n 2, 1) := by decide +kernel
theorem dX6_player_68 : decode cX6_player 68 = .ok (.iconst 2, 1) := by decide +kernel
theorem dX6_player_69 : decode cX6_player 69 = .ok (.isub, 1) := by decide +kernel
theorem dX6_player_70 : decode cX6_player 70 = .ok (.invokevirtual 152, 3) := by decide +kernel
theorem dX6_player_73 : decode cX6_player 73 = .ok (.ireturn, 1) := by decide +kernel
theorem dX6_player_74 : decode cX6_player 74 = .ok (.aload_n 0, 1) := by decide +kernel
theorem dX6_player_75 : decode cX6_player 75 = .ok (.iload_n 1, 1) := by decide +kernel
theorem dX6_player_76 : decode cX6_player 76 = .ok (.invokevirtual 158, 3) := by decide +kernel
theorem dX6_player_79 : decode cX6_player 79 = .ok (.ireturn, 1) := by decide +kernel
theorem dX6_player_80 : decode cX6_player 80 = .ok (.aload_n 0, 1) := by decide +kernel
theorem dX6_player_81 : decode cX6_player 81 = .ok (.iload_n 1, 1) := by decide +kernel
theorem dX6_player_82 : decode cX6_player 82 = .ok (.invokevirtual 100, 3) := by decide +kernel
theorem dX6_player_85 : decode cX6_player 85 = .ok (.ireturn, 1) := by decide +kernel
theorem dX6_player_86 : decode cX6_player 86 = .ok (.bipush (-2), 2) := by decide +kernel
theorem dX6_player_88 : decode cX6_player 88 = .ok (.ireturn, 1) := by decide +kernel
set_option maxRecDepth 20000 in
theorem ggX6_ahead_X6_at : GoodIn wsX6_ahead wsX6_at := goodIn_r _ [5] (by decide +kernel) (by decide +kernel)
set_option maxRecDepth 20000 in
theorem gX6_ahead_X6_at : GoodIn wsX6_ahead (va_wsS RX6 30 yX6_at wsX6_at) := goodIn_app (goodIn_of _ (by decide +kernel)) ggX6_ahead_X6_at
set_option maxRecDepth 20000 in
theorem ggX6_ahead_X6_flag : GoodIn wsX6_ahead wsX6_flag := goodIn_r _ [8] (by decide +kernel) (by decide +kernel)
set_option maxRecDepth 20000 in
theorem gX6_ahead_X6_flag : GoodIn wsX6_ahead (va_wsS RX6 40 yX6_flag wsX6_flag) := goodIn_app (goodIn_of _ (by decide +kernel)) ggX6_ahead_X6_flag
theorem dX6_ahead_0 : decode cX6_ahead 0 = .ok (.iconst 0, 1) := by decide +kernel
theorem dX6_ahead_1 : decode cX6_ahead 1 = .ok (.istore_n 2, 1) := by decide +kernel
theorem dX6_ahead_2 : decode cX6_ahead 2 = .ok (.aload_n 0, 1) := by decide +kernel
theorem dX6_ahead_3 : decode cX6_ahead 3 = .ok (.getfield 7, 3) := by decide +kernel
theorem dX6_ahead_6 : decode cX6_ahead 6 = .ok (.iconst 0, 1) := by decide +kernel
theorem dX6_ahead_7 : decode cX6_ahead 7 = .ok (.iload_n 1, 1) := by decide +kernel
theorem dX6_ahead_8 : decode cX6_ahead 8 = .ok (.invokestatic 30, 3) := by decide +kernel
theorem dX6_ahead_11 : decode cX6_ahead 11 = .ok (.iconst 4, 1) := by decide +kernel
theorem dX6_ahead_12 : decode cX6_ahead 12 = .ok (.iadd, 1) := by decide +kernel
theorem dX6_ahead_13 : decode cX6_ahead 13 = .ok (.iaload, 1) := by decide +kernel
theorem dX6_ahead_14 : decode cX6_ahead 14 = .ok (.istore_n 3, 1) := by decide +kernel
theorem dX6_ahead_15 : decode cX6_ahead 15 = .ok (.iconst 0, 1) := by decide +kernel
theorem dX6_ahead_16 : decode cX6_ahead 16 = .ok (.istore 4, 2) := by decide +kernel
theorem dX6_ahead_18 : decode cX6_ahead 18 = .ok (.iload 4, 2) := by decide +kernel
theorem dX6_ahead_20 : decode cX6_ahead 20 = .ok (.aload_n 0, 1) := by decide +kernel
theorem dX6_ahead_21 : decode cX6_ahead 21 = .ok (.getfield 7, 3) := by decide +kernel
theorem dX6_ahead_24 : decode cX6_ahead 24 = .ok (.iconst 0, 1) := by decide +kernel
theorem dX6_ahead_25 : decode cX6_ahead 25 = .ok (.iaload, 1) := by decide +kernel
theorem dX6_ahead_26 : decode cX6_ahead 26 = .ok (.if_icmp .ge 71, 3) := by decide +kernel
theorem dX6_ahead_29 : decode cX6_ahead 29 = .ok (.aload_n 0, 1) := by decide +kernel
theorem dX6_ahead_30 : decode cX6_ahead 30 = .ok (.getfield 7, 3) := by decide +kernel
theorem dX6_ahead_33 : decode cX6_ahead 33 = .ok (.iconst 0, 1) := by decide +kernel
theorem dX6_ahead_34 : decode cX6_ahead 34 = .ok (.iload 4, 2) := by decide +kernel
theorem dX6_ahead_36 : decode cX6_ahead 36 = .ok (.invokestatic 30, 3) := by decide +kernel
theorem dX6_ahead_39 : decode cX6_ahead 39 = .ok (.iconst 4, 1) := by decide +kernel
theorem dX6_ahead_40 : decode cX6_ahead 40 = .ok (.iadd, 1) := by decide +kernel
theorem dX6_ahead_41 : decode cX6_ahead 41 = .ok (.iaload, 1) := by decide +kernel
theorem dX6_ahead_42 : decode cX6_ahead 42 = .ok (.istore 5, 2) := by decide +kernel
theorem dX6_ahead_44 : decode cX6_ahead 44 = .ok (.iload_n 2, 1) := by decide +kernel
theorem dX6_ahead_45 : decode cX6_ahead 45 = .ok (.aload_n 0, 1) := by decide +kernel
theorem dX6_ahead_46 : decode cX6_ahead 46 = .ok (.getfield 7, 3) := by decide +kernel
theorem dX6_ahead_49 : decode cX6_ahead 49 = .ok (.iconst 0, 1) := by decide +kernel
theorem dX6_ahead_50 : decode cX6_ahead 50 = .ok (.iload 4, 2) := by decide +kernel
theorem dX6_ahead_52 : decode cX6_ahead 52 = .ok (.invokestatic 30, 3) := by decide +kernel
theorem dX6_ahead_55 : decode cX6_ahead 55 = .ok (.bipush 6, 2) := by decide +kernel
theorem dX6_ahead_57 : decode cX6_ahead 57 = .ok (.iadd, 1) := by decide +kernel
theorem dX6_ahead_58 : decode cX6_ahead 58 = .ok (.iaload, 1) := by decide +kernel
theorem dX6_ahead_59 : decode cX6_ahead 59 = .ok (.iconst 2, 1) := by decide +kernel
theorem dX6_ahead_60 : decode cX6_ahead 60 = .ok (.if_icmp .eq 25, 3) := by decide +kernel
theorem dX6_ahead_63 : decode cX6_ahead 63 = .ok (.iload 5, 2) := by decide +kernel
theorem dX6_ahead_65 : decode cX6_ahead 65 = .ok (.iload_n 3, 1) := by decide +kernel
theorem dX6_ahead_66 : decode cX6_ahead 66 = .ok (.if_icmp .gt 15, 3) := by decide +kernel
theorem dX6_ahead_69 : decode cX6_ahead 69 = .ok (.iload 5, 2) := by decide +kernel
theorem dX6_ahead_71 : decode cX6_ahead 71 = .ok (.iload_n 3, 1) := by decide +kernel
theorem dX6_ahead_72 : decode cX6_ahead 72 = .ok (.if_icmp .ne 13, 3) := by decide +kernel
theorem dX6_ahead_75 : decode cX6_ahead 75 = .ok (.iload 4, 2) := by decide +kernel
theorem dX6_ahead_77 : decode cX6_ahead 77 = .ok (.iload_n 1, 1) := by decide +kernel
theorem dX6_ahead_78 : decode cX6_ahead 78 = .ok (.if_icmp .ge 7, 3) := by decide +kernel
theorem dX6_ahead_81 : decode cX6_ahead 81 = .ok (.iconst 1, 1) := by decide +kernel
theorem dX6_ahead_82 : decode cX6_ahead 82 = .ok (.goto 4, 3) := by decide +kernel
theorem dX6_ahead_85 : decode cX6_ahead 85 = .ok (.iconst 0, 1) := by decide +kernel
theorem dX6_ahead_86 : decode cX6_ahead 86 = .ok (.invokestatic 40, 3) := by decide +kernel
theorem dX6_ahead_89 : decode cX6_ahead 89 = .ok (.iadd, 1) := by decide +kernel
theorem dX6_ahead_90 : decode cX6_ahead 90 = .ok (.istore_n 2, 1) := by decide +kernel
theorem dX6_ahead_91 : decode cX6_ahead 91 = .ok (.iinc 4 1, 3) := by decide +kernel
theorem dX6_ahead_94 : decode cX6_ahead 94 = .ok (.goto (-76), 3) := by decide +kernel
theorem dX6_ahead_97 : decode cX6_ahead 97 = .ok (.iload_n 2, 1) := by decide +kernel
theorem dX6_ahead_98 : decode cX6_ahead 98 = .ok (.ireturn, 1) := by decide +kernel
set_option maxRecDepth 20000 in
theorem ggX6_ranked_X6_at : GoodIn wsX6_ranked wsX6_at := goodIn_r _ [5] (by decide +kernel) (by decide +kernel)
set_option maxRecDepth 20000 in
theorem gX6_ranked_X6_at : GoodIn wsX6_ranked (va_wsS RX6 30 yX6_at wsX6_at) := goodIn_app (goodIn_of _ (by decide +kernel)) ggX6_ranked_X6_at
set_option maxRecDepth 20000 in
theorem ggX6_ranked_X6_ahead : GoodIn wsX6_ranked wsX6_ahead := goodIn_r _ [9, 1, 2, 3, 4, 5, 10, 11, 12, 13, 14, 15, 16, 17, 18, 19, 20, 21, 22, 23, 24, 25] (by decide +kernel) (by decide +kernel)
set_option maxRecDepth 20000 in
theorem gX6_ranked_X6_ahead : GoodIn wsX6_ranked (wsV RX6 161 RX6 yX6_ahead wsX6_ahead) := goodIn_app (goodIn_of _ (by decide +kernel)) ggX6_ranked_X6_ahead
theorem dX6_ranked_0 : decode cX6_ranked 0 = .ok (.iload_n 1, 1) := by decide +kernel
theorem dX6_ranked_1 : decode cX6_ranked 1 = .ok (.ifCond .ge 6, 3) := by decide +kernel
theorem dX6_ranked_4 : decode cX6_ranked 4 = .ok (.bipush (-2), 2) := by decide +kernel
theorem dX6_ranked_6 : decode cX6_ranked 6 = .ok (.ireturn, 1) := by decide +kernel
theorem dX6_ranked_7 : decode cX6_ranked 7 = .ok (.iconst 0, 1) := by decide +kernel
theorem dX6_ranked_8 : decode cX6_ranked 8 = .ok (.istore_n 2, 1) := by decide +kernel
theorem dX6_ranked_9 : decode cX6_ranked 9 = .ok (.iload_n 2, 1) := by decide +kernel
theorem dX6_ranked_10 : decode cX6_ranked 10 = .ok (.aload_n 0, 1) := by decide +kernel
theorem dX6_ranked_11 : decode cX6_ranked 11 = .ok (.getfield 7, 3) := by decide +kernel
theorem dX6_ranked_14 : decode cX6_ranked 14 = .ok (.iconst 0, 1) := by decide +kernel
theorem dX6_ranked_15 : decode cX6_ranked 15 = .ok (.iaload, 1) := by decide +kernel
theorem dX6_ranked_16 : decode cX6_ranked 16 = .ok (.if_icmp .ge 37, 3) := by decide +kernel
theorem dX6_ranked_19 : decode cX6_ranked 19 = .ok (.aload_n 0, 1) := by decide +kernel
theorem dX6_ranked_20 : decode cX6_ranked 20 = .ok (.getfield 7, 3) := by decide +kernel
theorem dX6_ranked_23 : decode cX6_ranked 23 = .ok (.iconst 0, 1) := by decide +kernel
theorem dX6_ranked_24 : decode cX6_ranked 24 = .ok (.iload_n 2, 1) := by decide +kernel
theorem dX6_ranked_25 : decode cX6_ranked 25 = .ok (.invokestatic 30, 3) := by decide +kernel
theorem dX6_ranked_28 : decode cX6_ranked 28 = .ok (.bipush 6, 2) := by decide +kernel
theorem dX6_ranked_30 : decode cX6_ranked 30 = .ok (.iadd, 1) := by decide +kernel
theorem dX6_ranked_31 : decode cX6_ranked 31 = .ok (.iaload, 1) := by decide +kernel
theorem dX6_ranked_32 : decode cX6_ranked 32 = .ok (.iconst 2, 1) := by decide +kernel
theorem dX6_ranked_33 : decode cX6_ranked 33 = .ok (.if_icmp .eq 14, 3) := by decide +kernel
theorem dX6_ranked_36 : decode cX6_ranked 36 = .ok (.aload_n 0, 1) := by decide +kernel
theorem dX6_ranked_37 : decode cX6_ranked 37 = .ok (.iload_n 2, 1) := by decide +kernel
theorem dX6_ranked_38 : decode cX6_ranked 38 = .ok (.invokevirtual 161, 3) := by decide +kernel
theorem dX6_ranked_41 : decode cX6_ranked 41 = .ok (.iload_n 1, 1) := by decide +kernel
theorem dX6_ranked_42 : decode cX6_ranked 42 = .ok (.if_icmp .ne 5, 3) := by decide +kernel
theorem dX6_ranked_45 : decode cX6_ranked 45 = .ok (.iload_n 2, 1) := by decide +kernel
theorem dX6_ranked_46 : decode cX6_ranked 46 = .ok (.ireturn, 1) := by decide +kernel
theorem dX6_ranked_47 : decode cX6_ranked 47 = .ok (.iinc 2 1, 3) := by decide +kernel
theorem dX6_ranked_50 : decode cX6_ranked 50 = .ok (.goto (-41), 3) := by decide +kernel
theorem dX6_ranked_53 : decode cX6_ranked 53 = .ok (.bipush (-5), 2) := by decide +kernel
theorem dX6_ranked_55 : decode cX6_ranked 55 = .ok (.ireturn, 1) := by decide +kernel
set_option maxRecDepth 20000 in
theorem ggX6_isInLine_X6_at : GoodIn wsX6_isInLine wsX6_at := goodIn_r _ [5] (by decide +kernel) (by decide +kernel)
set_option maxRecDepth 20000 in
theorem gX6_isInLine_X6_at : GoodIn wsX6_isInLine (va_wsS RX6 30 yX6_at wsX6_at) := goodIn_app (goodIn_of _ (by decide +kernel)) ggX6_isInLine_X6_at
theorem dX6_isInLine_0 : decode cX6_isInLine 0 = .ok (.iconst 0, 1) := by decide +kernel
theorem dX6_isInLine_1 : decode cX6_isInLine 1 = .ok (.istore_n 3, 1) := by decide +kernel
theorem dX6_isInLine_2 : decode cX6_isInLine 2 = .ok (.aload_n 0, 1) := by decide +kernel
theorem dX6_isInLine_3 : decode cX6_isInLine 3 = .ok (.getfield 7, 3) := by decide +kernel
theorem dX6_isInLine_6 : decode cX6_isInLine 6 = .ok (.iconst 0, 1) := by decide +kernel
theorem dX6_isInLine_7 : decode cX6_isInLine 7 = .ok (.iload_n 2, 1) := by decide +kernel
theorem dX6_isInLine_8 : decode cX6_isInLine 8 = .ok (.invokestatic 30, 3) := by decide +kernel
theorem dX6_isInLine_11 : decode cX6_isInLine 11 = .ok (.bipush 7, 2) := by decide +kernel
theorem dX6_isInLine_13 : decode cX6_isInLine 13 = .ok (.iadd, 1) := by decide +kernel
theorem dX6_isInLine_14 : decode cX6_isInLine 14 = .ok (.iaload, 1) := by decide +kernel
theorem dX6_isInLine_15 : decode cX6_isInLine 15 = .ok (.istore 4, 2) := by decide +kernel
theorem dX6_isInLine_17 : decode cX6_isInLine 17 = .ok (.iload 4, 2) := by decide +kernel
theorem dX6_isInLine_19 : decode cX6_isInLine 19 = .ok (.bipush (-5), 2) := by decide +kernel
theorem dX6_isInLine_21 : decode cX6_isInLine 21 = .ok (.if_icmp .eq 38, 3) := by decide +kernel
theorem dX6_isInLine_24 : decode cX6_isInLine 24 = .ok (.iload_n 3, 1) := by decide +kernel
theorem dX6_isInLine_25 : decode cX6_isInLine 25 = .ok (.ifCond .ne 9, 3) := by decide +kernel
theorem dX6_isInLine_28 : decode cX6_isInLine 28 = .ok (.iload 4, 2) := by decide +kernel
theorem dX6_isInLine_30 : decode cX6_isInLine 30 = .ok (.iload_n 1, 1) := by decide +kernel
theorem dX6_isInLine_31 : decode cX6_isInLine 31 = .ok (.if_icmp .ne 7, 3) := by decide +kernel
theorem dX6_isInLine_34 : decode cX6_isInLine 34 = .ok (.iconst 1, 1) := by decide +kernel
theorem dX6_isInLine_35 : decode cX6_isInLine 35 = .ok (.goto 4, 3) := by decide +kernel
theorem dX6_isInLine_38 : decode cX6_isInLine 38 = .ok (.iconst 0, 1) := by decide +kernel
theorem dX6_isInLine_39 : decode cX6_isInLine 39 = .ok (.istore_n 3, 1) := by decide +kernel
theorem dX6_isInLine_40 : decode cX6_isInLine 40 = .ok (.aload_n 0, 1) := by decide +kernel
theorem dX6_isInLine_41 : decode cX6_isInLine 41 = .ok (.getfield 7, 3) := by decide +kernel
theorem dX6_isInLine_44 : decode cX6_isInLine 44 = .ok (.iconst 0, 1) := by decide +kernel
theorem dX6_isInLine_45 : decode cX6_isInLine 45 = .ok (.iload 4, 2) := by decide +kernel
theorem dX6_isInLine_47 : decode cX6_isInLine 47 = .ok (.invokestatic 30, 3) := by decide +kernel
theorem dX6_isInLine_50 : decode cX6_isInLine 50 = .ok (.bipush 7, 2) := by decide +kernel
theorem dX6_isInLine_52 : decode cX6_isInLine 52 = .ok (.iadd, 1) := by decide +kernel
theorem dX6_isInLine_53 : decode cX6_isInLine 53 = .ok (.iaload, 1) := by decide +kernel
theorem dX6_isInLine_54 : decode cX6_isInLine 54 = .ok (.istore 4, 2) := by decide +kernel
theorem dX6_isInLine_56 : decode cX6_isInLine 56 = .ok (.goto (-39), 3) := by decide +kernel
theorem dX6_isInLine_59 : decode cX6_isInLine 59 = .ok (.iload_n 3, 1) := by decide +kernel
theorem dX6_isInLine_60 : decode cX6_isInLine 60 = .ok (.ireturn, 1) := by decide +kernel
set_option maxRecDepth 20000 in
theorem ggX6_line_X6_isConker : GoodIn wsX6_line wsX6_isConker := goodIn_r _ [6, 1, 7, 8, 5, 9, 20, 21, 22, 23, 24, 25, 26, 27, 28, 29, 30, 31, 32] (by decide +kernel) (by decide +kernel)
set_option maxRecDepth 20000 in
theorem gX6_line_X6_isConker : GoodIn wsX6_line (wsV RX6 59 RX6 yX6_isConker wsX6_isConker) := goodIn_app (goodIn_of _ (by decide +kernel)) ggX6_line_X6_isConker
set_option maxRecDepth 20000 in
theorem ggX6_line_X6_isInLine : GoodIn wsX6_line wsX6_isInLine := goodIn_r _ [13, 1, 14, 15, 5, 16, 20, 21, 22, 23, 24, 25, 26, 27, 28, 29, 30, 31, 32] (by decide +kernel) (by decide +kernel)
set_option maxRecDepth 20000 in
theorem gX6_line_X6_isInLine : GoodIn wsX6_line (wsV RX6 164 RX6 yX6_isInLine wsX6_isInLine) := goodIn_app (goodIn_of _ (by decide +kernel)) ggX6_line_X6_isInLine
set_option maxRecDepth 20000 in
theorem ggX6_line_X6_flag : GoodIn wsX6_line wsX6_flag := goodIn_r _ [19] (by decide +kernel) (by decide +kernel)
set_option maxRecDepth 20000 in
theorem gX6_line_X6_flag : GoodIn wsX6_line (va_wsS RX6 40 yX6_flag wsX6_flag) := goodIn_app (goodIn_of _ (by decide +kernel)) ggX6_line_X6_flag
theorem dX6_line_0 : decode cX6_line 0 = .ok (.aload_n 0, 1) := by decide +kernel
theorem dX6_line_1 : decode cX6_line 1 = .ok (.iload_n 1, 1) := by decide +kernel
theorem dX6_line_2 : decode cX6_line 2 = .ok (.invokevirtual 59, 3) := by decide +kernel
theorem dX6_line_5 : decode cX6_line 5 = .ok (.ifCond .ne 5, 3) := by decide +kernel
theorem dX6_line_8 : decode cX6_line 8 = .ok (.iconst (-1), 1) := by decide +kernel
theorem dX6_line_9 : decode cX6_line 9 = .ok (.ireturn, 1) := by decide +kernel
theorem dX6_line_10 : decode cX6_line 10 = .ok (.iconst 0, 1) := by decide +kernel
theorem dX6_line_11 : decode cX6_line 11 = .ok (.istore_n 2, 1) := by decide +kernel
theorem dX6_line_12 : decode cX6_line 12 = .ok (.iconst 0, 1) := by decide +kernel
theorem dX6_line_13 : decode cX6_line 13 = .ok (.istore_n 3, 1) := by decide +kernel
theorem dX6_line_14 : decode cX6_line 14 = .ok (.iload_n 3, 1) := by decide +kernel
theorem dX6_line_15 : decode cX6_line 15 = .ok (.aload_n 0, 1) := by decide +kernel
theorem dX6_line_16 : decode cX6_line 16 = .ok (.getfield 7, 3) := by decide +kernel
theorem dX6_line_19 : decode cX6_line 19 = .ok (.iconst 0, 1) := by decide +kernel
theorem dX6_line_20 : decode cX6_line 20 = .ok (.iaload, 1) := by decide +kernel
theorem dX6_line_21 : decode cX6_line 21 = .ok (.if_icmp .ge 21, 3) := by decide +kernel
theorem dX6_line_24 : decode cX6_line 24 = .ok (.iload_n 2, 1) := by decide +kernel
theorem dX6_line_25 : decode cX6_line 25 = .ok (.aload_n 0, 1) := by decide +kernel
theorem dX6_line_26 : decode cX6_line 26 = .ok (.iload_n 1, 1) := by decide +kernel
theorem dX6_line_27 : decode cX6_line 27 = .ok (.iload_n 3, 1) := by decide +kernel
theorem dX6_line_28 : decode cX6_line 28 = .ok (.invokevirtual 164, 3) := by decide +kernel
theorem dX6_line_31 : decode cX6_line 31 = .ok (.invokestatic 40, 3) := by decide +kernel
theorem dX6_line_34 : decode cX6_line 34 = .ok (.iadd, 1) := by decide +kernel
theorem dX6_line_35 : decode cX6_line 35 = .ok (.istore_n 2, 1) := by decide +kernel
theorem dX6_line_36 : decode cX6_line 36 = .ok (.iinc 3 1, 3) := by decide +kernel
theorem dX6_line_39 : decode cX6_line 39 = .ok (.goto (-25), 3) := by decide +kernel
theorem dX6_line_42 : decode cX6_line 42 = .ok (.iload_n 2, 1) := by decide +kernel
theorem dX6_line_43 : decode cX6_line 43 = .ok (.ireturn, 1) := by decide +kernel
set_option maxRecDepth 20000 in
theorem ggX6_boasts_X6_at : GoodIn wsX6_boasts wsX6_at := goodIn_r _ [5] (by decide +kernel) (by decide +kernel)
set_option maxRecDepth 20000 in
theorem gX6_boasts_X6_at : GoodIn wsX6_boasts (va_wsS RX6 30 yX6_at wsX6_at) := goodIn_app (goodIn_of _ (by decide +kernel)) ggX6_boasts_X6_at
set_option maxRecDepth 20000 in
theorem ggX6_boasts_X6_flag : GoodIn wsX6_boasts wsX6_flag := goodIn_r _ [8] (by decide +kernel) (by decide +kernel)
set_option maxRecDepth 20000 in
theorem gX6_boasts_X6_flag : GoodIn wsX6_boasts (va_wsS RX6 40 yX6_flag wsX6_flag) := goodIn_app (goodIn_of _ (by decide +kernel)) ggX6_boasts_X6_flag
theorem dX6_boasts_0 : decode cX6_boasts 0 = .ok (.iconst 0, 1) := by decide +kernel
theorem dX6_boasts_1 : decode cX6_boasts 1 = .ok (.istore_n 2, 1) := by decide +kernel
theorem dX6_boasts_2 : decode cX6_boasts 2 = .ok (.iconst 0, 1) := by decide +kernel
theorem dX6_boasts_3 : decode cX6_boasts 3 = .ok (.istore_n 3, 1) := by decide +kernel
theorem dX6_boasts_4 : decode cX6_boasts 4 = .ok (.iload_n 3, 1) := by decide +kernel
theorem dX6_boasts_5 : decode cX6_boasts 5 = .ok (.aload_n 0, 1) := by decide +kernel
theorem dX6_boasts_6 : decode cX6_boasts 6 = .ok (.getfield 7, 3) := by decide +kernel
theorem dX6_boasts_9 : decode cX6_boasts 9 = .ok (.iconst 0, 1) := by decide +kernel
theorem dX6_boasts_10 : decode cX6_boasts 10 = .ok (.iaload, 1) := by decide +kernel
theorem dX6_boasts_11 : decode cX6_boasts 11 = .ok (.if_icmp .ge 66, 3) := by decide +kernel
theorem dX6_boasts_14 : decode cX6_boasts 14 = .ok (.iconst 0, 1) := by decide +kernel
theorem dX6_boasts_15 : decode cX6_boasts 15 = .ok (.iload_n 3, 1) := by decide +kernel
theorem dX6_boasts_16 : decode cX6_boasts 16 = .ok (.invokestatic 30, 3) := by decide +kernel
theorem dX6_boasts_19 : decode cX6_boasts 19 = .ok (.istore 4, 2) := by decide +kernel
theorem dX6_boasts_21 : decode cX6_boasts 21 = .ok (.iload_n 2, 1) := by decide +kernel
theorem dX6_boasts_22 : decode cX6_boasts 22 = .ok (.aload_n 0, 1) := by decide +kernel
theorem dX6_boasts_23 : decode cX6_boasts 23 = .ok (.getfield 7, 3) := by decide +kernel
theorem dX6_boasts_26 : decode cX6_boasts 26 = .ok (.iload 4, 2) := by decide +kernel
theorem dX6_boasts_28 : decode cX6_boasts 28 = .ok (.iconst 5, 1) := by decide +kernel
theorem dX6_boasts_29 : decode cX6_boasts 29 = .ok (.iadd, 1) := by decide +kernel
theorem dX6_boasts_30 : decode cX6_boasts 30 = .ok (.iaload, 1) := by decide +kernel
theorem dX6_boasts_31 : decode cX6_boasts 31 = .ok (.bipush (-5), 2) := by decide +kernel
theorem dX6_boasts_33 : decode cX6_boasts 33 = .ok (.if_icmp .eq 32, 3) := by decide +kernel
theorem dX6_boasts_36 : decode cX6_boasts 36 = .ok (.iload_n 1, 1) := by decide +kernel
theorem dX6_boasts_37 : decode cX6_boasts 37 = .ok (.ifCond .eq 24, 3) := by decide +kernel
theorem dX6_boasts_40 : decode cX6_boasts 40 = .ok (.aload_n 0, 1) := by decide +kernel
theorem dX6_boasts_41 : decode cX6_boasts 41 = .ok (.getfield 7, 3) := by decide +kernel
theorem dX6_boasts_44 : decode cX6_boasts 44 = .ok (.iload 4, 2) := by decide +kernel
theorem dX6_boasts_46 : decode cX6_boasts 46 = .ok (.iconst 5, 1) := by decide +kernel
theorem dX6_boasts_47 : decode cX6_boasts 47 = .ok (.iadd, 1) := by decide +kernel
theorem dX6_boasts_48 : decode cX6_boasts 48 = .ok (.iaload, 1) := by decide +kernel
theorem dX6_boasts_49 : decode cX6_boasts 49 = .ok (.aload_n 0, 1) := by decide +kernel
theorem dX6_boasts_50 : decode cX6_boasts 50 = .ok (.getfield 7, 3) := by decide +kernel
theorem dX6_boasts_53 : decode cX6_boasts 53 = .ok (.iload 4, 2) := by decide +kernel
theorem dX6_boasts_55 : decode cX6_boasts 55 = .ok (.iconst 4, 1) := by decide +kernel
theorem dX6_boasts_56 : decode cX6_boasts 56 = .ok (.iadd, 1) := by decide +kernel
theorem dX6_boasts_57 : decode cX6_boasts 57 = .ok (.iaload, 1) := by decide +kernel
theorem dX6_boasts_58 : decode cX6_boasts 58 = .ok (.if_icmp .le 7, 3) := by decide +kernel
theorem dX6_boasts_61 : decode cX6_boasts 61 = .ok (.iconst 1, 1) := by decide +kernel
theorem dX6_boasts_62 : decode cX6_boasts 62 = .ok (.goto 4, 3) := by decide +kernel
theorem dX6_boasts_65 : decode cX6_boasts 65 = .ok (.iconst 0, 1) := by decide +kernel
theorem dX6_boasts_66 : decode cX6_boasts 66 = .ok (.invokestatic 40, 3) := by decide +kernel
theorem dX6_boasts_69 : decode cX6_boasts 69 = .ok (.iadd, 1) := by decide +kernel
theorem dX6_boasts_70 : decode cX6_boasts 70 = .ok (.istore_n 2, 1) := by decide +kernel
theorem dX6_boasts_71 : decode cX6_boasts 71 = .ok (.iinc 3 1, 3) := by decide +kernel
theorem dX6_boasts_74 : decode cX6_boasts 74 = .ok (.goto (-70), 3) := by decide +kernel
theorem dX6_boasts_77 : decode cX6_boasts 77 = .ok (.iload_n 2, 1) := by decide +kernel
theorem dX6_boasts_78 : decode cX6_boasts 78 = .ok (.ireturn, 1) := by decide +kernel
set_option maxRecDepth 20000 in
theorem ggX6_count_X6_conkers : GoodIn wsX6_count wsX6_conkers := goodIn_r _ [8, 1, 9, 10, 7, 11, 12, 13, 14, 23, 24, 25, 26, 27, 28, 29, 30, 31, 32, 33, 34, 35] (by decide +kernel) (by decide +kernel)
set_option maxRecDepth 20000 in
theorem gX6_count_X6_conkers : GoodIn wsX6_count (wsV RX6 152 RX6 yX6_conkers wsX6_conkers) := goodIn_app (goodIn_of _ (by decide +kernel)) ggX6_count_X6_conkers
set_option maxRecDepth 20000 in
theorem ggX6_count_X6_victories : GoodIn wsX6_count wsX6_victories := goodIn_r _ [18, 1, 9, 10, 7, 11, 23, 24, 25, 26, 27, 28, 29, 30, 31, 32, 33, 34, 35] (by decide +kernel) (by decide +kernel)
set_option maxRecDepth 20000 in
theorem gX6_count_X6_victories : GoodIn wsX6_count (wsV RX6 158 RX6 yX6_victories wsX6_victories) := goodIn_app (goodIn_of _ (by decide +kernel)) ggX6_count_X6_victories
set_option maxRecDepth 20000 in
theorem ggX6_count_X6_boasts : GoodIn wsX6_count wsX6_boasts := goodIn_r _ [22, 1, 9, 10, 7, 11, 12, 13, 14, 23, 24, 25, 26, 27, 28, 29, 30, 31, 32, 33, 34, 35] (by decide +kernel) (by decide +kernel)
set_option maxRecDepth 20000 in
theorem gX6_count_X6_boasts : GoodIn wsX6_count (wsV RX6 167 RX6 yX6_boasts wsX6_boasts) := goodIn_app (goodIn_of _ (by decide +kernel)) ggX6_count_X6_boasts
theorem dX6_count_0 : decode cX6_count 0 = .ok (.iload_n 1, 1) := by decide +kernel
theorem dX6_count_1 : decode cX6_count 1 = .ok (.tableswitch 124 0 11 #[63, 70, 70, 70, 80, 87, 87, 87, 98, 98, 114, 119], 63) := by decide +kernel
theorem dX6_count_64 : decode cX6_count 64 = .ok (.aload_n 0, 1) := by decide +kernel
theorem dX6_count_65 : decode cX6_count 65 = .ok (.getfield 7, 3) := by decide +kernel
theorem dX6_count_68 : decode cX6_count 68 = .ok (.iconst 0, 1) := by decide +kernel
theorem dX6_count_69 : decode cX6_count 69 = .ok (.iaload, 1) := by decide +kernel
theorem dX6_count_70 : decode cX6_count 70 = .ok (.ireturn, 1) := by decide +kernel
theorem dX6_count_71 : decode cX6_count 71 = .ok (.aload_n 0, 1) := by decide +kernel
theorem dX6_count_72 : decode cX6_count 72 = .ok (.bipush (-5), 2) := by decide +kernel
theorem dX6_count_74 : decode cX6_count 74 = .ok (.iload_n 1, 1) := by decide +kernel
theorem dX6_count_75 : decode cX6_count 75 = .ok (.iconst 1, 1) := by decide +kernel
theorem dX6_count_76 : decode cX6_count 76 = .ok (.isub, 1) := by decide +kernel
theorem dX6_count_77 : decode cX6_count 77 = .ok (.invokevirtual 152, 3) := by decide +kernel
theorem dX6_count_80 : decode cX6_count 80 = .ok (.ireturn, 1) := by decide +kernel
theorem dX6_count_81 : decode cX6_count 81 = .ok (.aload_n 0, 1) := by decide +kernel
theorem dX6_count_82 : decode cX6_count 82 = .ok (.bipush (-5), 2) := by decide +kernel
theorem dX6_count_84 : decode cX6_count 84 = .ok (.invokevirtual 158, 3) := by decide +kernel
theorem dX6_count_87 : decode cX6_count 87 = .ok (.ireturn, 1) := by decide +kernel
theorem dX6_count_88 : decode cX6_count 88 = .ok (.aload_n 0, 1) := by decide +kernel
theorem dX6_count_89 : decode cX6_count 89 = .ok (.getfield 7, 3) := by decide +kernel
theorem dX6_count_92 : decode cX6_count 92 = .ok (.iconst 1, 1) := by decide +kernel
theorem dX6_count_93 : decode cX6_count 93 = .ok (.iload_n 1, 1) := by decide +kernel
theorem dX6_count_94 : decode cX6_count 94 = .ok (.iadd, 1) := by decide +kernel
theorem dX6_count_95 : decode cX6_count 95 = .ok (.iconst 5, 1) := by decide +kernel
theorem dX6_count_96 : decode cX6_count 96 = .ok (.isub, 1) := by decide +kernel
theorem dX6_count_97 : decode cX6_count 97 = .ok (.iaload, 1) := by decide +kernel
theorem dX6_count_98 : decode cX6_count 98 = .ok (.ireturn, 1) := by decide +kernel
theorem dX6_count_99 : decode cX6_count 99 = .ok (.aload_n 0, 1) := by decide +kernel
theorem dX6_count_100 : decode cX6_count 100 = .ok (.iload_n 1, 1) := by decide +kernel
theorem dX6_count_101 : decode cX6_count 101 = .ok (.bipush 9, 2) := by decide +kernel
theorem dX6_count_103 : decode cX6_count 103 = .ok (.if_icmp .ne 7, 3) := by decide +kernel
theorem dX6_count_106 : decode cX6_count 106 = .ok (.iconst 1, 1) := by decide +kernel
theorem dX6_count_107 : decode cX6_count 107 = .ok (.goto 4, 3) := by decide +kernel
theorem dX6_count_110 : decode cX6_count 110 = .ok (.iconst 0, 1) := by decide +kernel
theorem dX6_count_111 : decode cX6_count 111 = .ok (.invokevirtual 167, 3) := by decide +kernel
theorem dX6_count_114 : decode cX6_count 114 = .ok (.ireturn, 1) := by decide +kernel
theorem dX6_count_115 : decode cX6_count 115 = .ok (.aload_n 0, 1) := by decide +kernel
theorem dX6_count_116 : decode cX6_count 116 = .ok (.getfield 22, 3) := by decide +kernel
theorem dX6_count_119 : decode cX6_count 119 = .ok (.ireturn, 1) := by decide +kernel
theorem dX6_count_120 : decode cX6_count 120 = .ok (.aload_n 0, 1) := by decide +kernel
theorem dX6_count_121 : decode cX6_count 121 = .ok (.getfield 107, 3) := by decide +kernel
theorem dX6_count_124 : decode cX6_count 124 = .ok (.ireturn, 1) := by decide +kernel
theorem dX6_count_125 : decode cX6_count 125 = .ok (.bipush (-2), 2) := by decide +kernel
theorem dX6_count_127 : decode cX6_count 127 = .ok (.ireturn, 1) := by decide +kernel
set_option maxRecDepth 20000 in
theorem ggX6_ifStruck_X6_strikeError : GoodIn wsX6_ifStruck wsX6_strikeError := goodIn_r _ [5, 6, 7, 4, 8, 9, 10, 11, 12, 13, 14, 15, 16, 17, 18, 19, 20, 39, 40, 41, 42, 43, 44, 45, 46, 47, 48, 49, 50, 51] (by decide +kernel) (by decide +kernel)
set_option maxRecDepth 20000 in
theorem gX6_ifStruck_X6_strikeError : GoodIn wsX6_ifStruck (wsV RX6 77 RX6 yX6_strikeError wsX6_strikeError) := goodIn_app (goodIn_of _ (by decide +kernel)) ggX6_ifStruck_X6_strikeError
set_option maxRecDepth 20000 in
theorem ggX6_ifStruck_X6_copies : GoodIn wsX6_ifStruck wsX6_copies := goodIn_r _ [24, 13, 39, 40, 41, 42, 43, 44, 45, 46, 47, 48, 49, 50, 51] (by decide +kernel) (by decide +kernel)
set_option maxRecDepth 20000 in
theorem gX6_ifStruck_X6_copies : GoodIn wsX6_ifStruck (wsV RX6 26 RX6 yX6_copies wsX6_copies) := goodIn_app (goodIn_of _ (by decide +kernel)) ggX6_ifStruck_X6_copies
set_option maxRecDepth 20000 in
theorem ggX6_ifStruck_X6_strikes : GoodIn wsX6_ifStruck wsX6_strikes := goodIn_r _ [28, 13, 18, 19, 4, 20, 29, 30, 31, 32, 33, 34, 35, 36, 37, 38, 39, 40, 41, 42, 43, 44, 45, 46, 47, 48, 49, 50, 51] (by decide +kernel) (by decide +kernel)
set_option maxRecDepth 20000 in
theorem gX6_ifStruck_X6_strikes : GoodIn wsX6_ifStruck (wsV RX6 51 RX6 yX6_strikes wsX6_strikes) := goodIn_app (goodIn_of _ (by decide +kernel)) ggX6_ifStruck_X6_strikes
theorem dX6_ifStruck_0 : decode cX6_ifStruck 0 = .ok (.aload_n 0, 1) := by decide +kernel
theorem dX6_ifStruck_1 : decode cX6_ifStruck 1 = .ok (.iload_n 1, 1) := by decide +kernel
theorem dX6_ifStruck_2 : decode cX6_ifStruck 2 = .ok (.iload_n 2, 1) := by decide +kernel
theorem dX6_ifStruck_3 : decode cX6_ifStruck 3 = .ok (.iload_n 3, 1) := by decide +kernel
theorem dX6_ifStruck_4 : decode cX6_ifStruck 4 = .ok (.invokevirtual 77, 3) := by decide +kernel
theorem dX6_ifStruck_7 : decode cX6_ifStruck 7 = .ok (.istore 4, 2) := by decide +kernel
theorem dX6_ifStruck_9 : decode cX6_ifStruck 9 = .ok (.iload 4, 2) := by decide +kernel
theorem dX6_ifStruck_11 : decode cX6_ifStruck 11 = .ok (.ifCond .eq 6, 3) := by decide +kernel
theorem dX6_ifStruck_14 : decode cX6_ifStruck 14 = .ok (.iload 4, 2) := by decide +kernel
theorem dX6_ifStruck_16 : decode cX6_ifStruck 16 = .ok (.ireturn, 1) := by decide +kernel
theorem dX6_ifStruck_17 : decode cX6_ifStruck 17 = .ok (.aload_n 0, 1) := by decide +kernel
theorem dX6_ifStruck_18 : decode cX6_ifStruck 18 = .ok (.iconst 0, 1) := by decide +kernel
theorem dX6_ifStruck_19 : decode cX6_ifStruck 19 = .ok (.bipush 7, 2) := by decide +kernel
theorem dX6_ifStruck_21 : decode cX6_ifStruck 21 = .ok (.invokevirtual 26, 3) := by decide +kernel
theorem dX6_ifStruck_24 : decode cX6_ifStruck 24 = .ok (.aload_n 0, 1) := by decide +kernel
theorem dX6_ifStruck_25 : decode cX6_ifStruck 25 = .ok (.sipush 1792, 3) := by decide +kernel
theorem dX6_ifStruck_28 : decode cX6_ifStruck 28 = .ok (.iload_n 1, 1) := by decide +kernel
theorem dX6_ifStruck_29 : decode cX6_ifStruck 29 = .ok (.iload_n 2, 1) := by decide +kernel
theorem dX6_ifStruck_30 : decode cX6_ifStruck 30 = .ok (.iload_n 3, 1) := by decide +kernel
theorem dX6_ifStruck_31 : decode cX6_ifStruck 31 = .ok (.invokevirtual 51, 3) := by decide +kernel
theorem dX6_ifStruck_34 : decode cX6_ifStruck 34 = .ok (.ireturn, 1) := by decide +kernel
set_option maxRecDepth 20000 in
theorem ggX6_leastSwing_X6_strikeError : GoodIn wsX6_leastSwing wsX6_strikeError := goodIn_r _ [5, 6, 7, 4, 8, 9, 10, 11, 12, 13, 14, 15, 16, 17, 18, 19, 20, 39, 40, 41, 42, 43, 44, 45, 46, 47, 48, 49, 50, 51] (by decide +kernel) (by decide +kernel)
set_option maxRecDepth 20000 in
theorem gX6_leastSwing_X6_strikeError : GoodIn wsX6_leastSwing (wsV RX6 77 RX6 yX6_strikeError wsX6_strikeError) := goodIn_app (goodIn_of _ (by decide +kernel)) ggX6_leastSwing_X6_strikeError
set_option maxRecDepth 20000 in
theorem ggX6_leastSwing_X6_copies : GoodIn wsX6_leastSwing wsX6_copies := goodIn_r _ [24, 13, 39, 40, 41, 42, 43, 44, 45, 46, 47, 48, 49, 50, 51] (by decide +kernel) (by decide +kernel)
set_option maxRecDepth 20000 in
theorem gX6_leastSwing_X6_copies : GoodIn wsX6_leastSwing (wsV RX6 26 RX6 yX6_copies wsX6_copies) := goodIn_app (goodIn_of _ (by decide +kernel)) ggX6_leastSwing_X6_copies
set_option maxRecDepth 20000 in
theorem ggX6_leastSwing_X6_strikes : GoodIn wsX6_leastSwing wsX6_strikes := goodIn_r _ [28, 13, 18, 19, 4, 20, 29, 30, 31, 32, 33, 34, 35, 36, 37, 38, 39, 40, 41, 42, 43, 44, 45, 46, 47, 48, 49, 50, 51] (by decide +kernel) (by decide +kernel)
set_option maxRecDepth 20000 in
theorem gX6_leastSwing_X6_strikes : GoodIn wsX6_leastSwing (wsV RX6 51 RX6 yX6_strikes wsX6_strikes) := goodIn_app (goodIn_of _ (by decide +kernel)) ggX6_leastSwing_X6_strikes
theorem dX6_leastSwing_0 : decode cX6_leastSwing 0 = .ok (.aload_n 0, 1) := by decide +kernel
theorem dX6_leastSwing_1 : decode cX6_leastSwing 1 = .ok (.iload_n 1, 1) := by decide +kernel
theorem dX6_leastSwing_2 : decode cX6_leastSwing 2 = .ok (.iload_n 2, 1) := by decide +kernel
theorem dX6_leastSwing_3 : decode cX6_leastSwing 3 = .ok (.iconst 1, 1) := by decide +kernel
theorem dX6_leastSwing_4 : decode cX6_leastSwing 4 = .ok (.invokevirtual 77, 3) := by decide +kernel
theorem dX6_leastSwing_7 : decode cX6_leastSwing 7 = .ok (.istore_n 3, 1) := by decide +kernel
theorem dX6_leastSwing_8 : decode cX6_leastSwing 8 = .ok (.iload_n 3, 1) := by decide +kernel
theorem dX6_leastSwing_9 : decode cX6_leastSwing 9 = .ok (.ifCond .eq 5, 3) := by decide +kernel
theorem dX6_leastSwing_12 : decode cX6_leastSwing 12 = .ok (.iload_n 3, 1) := by decide +kernel
theorem dX6_leastSwing_13 : decode cX6_leastSwing 13 = .ok (.ireturn, 1) := by decide +kernel
theorem dX6_leastSwing_14 : decode cX6_leastSwing 14 = .ok (.iconst 1, 1) := by decide +kernel
theorem dX6_leastSwing_15 : decode cX6_leastSwing 15 = .ok (.istore 4, 2) := by decide +kernel
theorem dX6_leastSwing_17 : decode cX6_leastSwing 17 = .ok (.iload 4, 2) := by decide +kernel
theorem dX6_leastSwing_19 : decode cX6_leastSwing 19 = .ok (.bipush 9, 2) := by decide +kernel
theorem dX6_leastSwing_21 : decode cX6_leastSwing 21 = .ok (.if_icmp .gt 36, 3) := by decide +kernel
theorem dX6_leastSwing_24 : decode cX6_leastSwing 24 = .ok (.aload_n 0, 1) := by decide +kernel
theorem dX6_leastSwing_25 : decode cX6_leastSwing 25 = .ok (.iconst 0, 1) := by decide +kernel
theorem dX6_leastSwing_26 : decode cX6_leastSwing 26 = .ok (.bipush 7, 2) := by decide +kernel
theorem dX6_leastSwing_28 : decode cX6_leastSwing 28 = .ok (.invokevirtual 26, 3) := by decide +kernel
theorem dX6_leastSwing_31 : decode cX6_leastSwing 31 = .ok (.aload_n 0, 1) := by decide +kernel
theorem dX6_leastSwing_32 : decode cX6_leastSwing 32 = .ok (.sipush 1792, 3) := by decide +kernel
theorem dX6_leastSwing_35 : decode cX6_leastSwing 35 = .ok (.iload_n 1, 1) := by decide +kernel
theorem dX6_leastSwing_36 : decode cX6_leastSwing 36 = .ok (.iload_n 2, 1) := by decide +kernel
theorem dX6_leastSwing_37 : decode cX6_leastSwing 37 = .ok (.iload 4, 2) := by decide +kernel
theorem dX6_leastSwing_39 : decode cX6_leastSwing 39 = .ok (.invokevirtual 51, 3) := by decide +kernel
theorem dX6_leastSwing_42 : decode cX6_leastSwing 42 = .ok (.iconst 4, 1) := by decide +kernel
theorem dX6_leastSwing_43 : decode cX6_leastSwing 43 = .ok (.irem, 1) := by decide +kernel
theorem dX6_leastSwing_44 : decode cX6_leastSwing 44 = .ok (.iconst 2, 1) := by decide +kernel
theorem dX6_leastSwing_45 : decode cX6_leastSwing 45 = .ok (.if_icmp .ne 6, 3) := by decide +kernel
theorem dX6_leastSwing_48 : decode cX6_leastSwing 48 = .ok (.iload 4, 2) := by decide +kernel
theorem dX6_leastSwing_50 : decode cX6_leastSwing 50 = .ok (.ireturn, 1) := by decide +kernel
theorem dX6_leastSwing_51 : decode cX6_leastSwing 51 = .ok (.iinc 4 1, 3) := by decide +kernel
theorem dX6_leastSwing_54 : decode cX6_leastSwing 54 = .ok (.goto (-37), 3) := by decide +kernel
theorem dX6_leastSwing_57 : decode cX6_leastSwing 57 = .ok (.bipush (-5), 2) := by decide +kernel
theorem dX6_leastSwing_59 : decode cX6_leastSwing 59 = .ok (.ireturn, 1) := by decide +kernel
set_option maxRecDepth 20000 in
theorem ggX6_winner_X6_boutError : GoodIn wsX6_winner wsX6_boutError := goodIn_r _ [7, 8, 9, 10, 6, 11, 12, 13, 14, 15, 2, 16, 17, 18, 19, 20, 21, 22, 50, 51, 52, 53, 54, 55, 56, 57, 58, 59, 60, 61, 62] (by decide +kernel) (by decide +kernel)
set_option maxRecDepth 20000 in
theorem gX6_winner_X6_boutError : GoodIn wsX6_winner (wsV RX6 94 RX6 yX6_boutError wsX6_boutError) := goodIn_app (goodIn_of _ (by decide +kernel)) ggX6_winner_X6_boutError
set_option maxRecDepth 20000 in
theorem ggX6_winner_X6_copies : GoodIn wsX6_winner wsX6_copies := goodIn_r _ [26, 2, 50, 51, 52, 53, 54, 55, 56, 57, 58, 59, 60, 61, 62] (by decide +kernel) (by decide +kernel)
set_option maxRecDepth 20000 in
theorem gX6_winner_X6_copies : GoodIn wsX6_winner (wsV RX6 26 RX6 yX6_copies wsX6_copies) := goodIn_app (goodIn_of _ (by decide +kernel)) ggX6_winner_X6_copies
set_option maxRecDepth 20000 in
theorem ggX6_winner_X6_fights : GoodIn wsX6_winner wsX6_fights := goodIn_r _ [30, 2, 1, 31, 32, 6, 33, 20, 21, 22, 34, 35, 36, 37, 38, 39, 40, 41, 42, 43, 44, 45, 46, 47, 48, 49, 50, 51, 52, 53, 54, 55, 56, 57, 58, 59, 60, 61, 62] (by decide +kernel) (by decide +kernel)
set_option maxRecDepth 20000 in
theorem gX6_winner_X6_fights : GoodIn wsX6_winner (wsV RX6 97 RX6 yX6_fights wsX6_fights) := goodIn_app (goodIn_of _ (by decide +kernel)) ggX6_winner_X6_fights
set_option maxRecDepth 20000 in
theorem ggX6_winner_X6_at : GoodIn wsX6_winner wsX6_at := goodIn_r _ [22] (by decide +kernel) (by decide +kernel)
set_option maxRecDepth 20000 in
theorem gX6_winner_X6_at : GoodIn wsX6_winner (va_wsS RX6 30 yX6_at wsX6_at) := goodIn_app (goodIn_of _ (by decide +kernel)) ggX6_winner_X6_at
theorem dX6_winner_0 : decode cX6_winner 0 = .ok (.aload_n 0, 1) := by decide +kernel
theorem dX6_winner_1 : decode cX6_winner 1 = .ok (.iload_n 1, 1) := by decide +kernel
theorem dX6_winner_2 : decode cX6_winner 2 = .ok (.iload_n 2, 1) := by decide +kernel
theorem dX6_winner_3 : decode cX6_winner 3 = .ok (.iload_n 3, 1) := by decide +kernel
theorem dX6_winner_4 : decode cX6_winner 4 = .ok (.invokevirtual 94, 3) := by decide +kernel
theorem dX6_winner_7 : decode cX6_winner 7 = .ok (.istore 4, 2) := by decide +kernel
theorem dX6_winner_9 : decode cX6_winner 9 = .ok (.iload 4, 2) := by decide +kernel
theorem dX6_winner_11 : decode cX6_winner 11 = .ok (.ifCond .eq 6, 3) := by decide +kernel
theorem dX6_winner_14 : decode cX6_winner 14 = .ok (.iload 4, 2) := by decide +kernel
theorem dX6_winner_16 : decode cX6_winner 16 = .ok (.ireturn, 1) := by decide +kernel
theorem dX6_winner_17 : decode cX6_winner 17 = .ok (.aload_n 0, 1) := by decide +kernel
theorem dX6_winner_18 : decode cX6_winner 18 = .ok (.iconst 0, 1) := by decide +kernel
theorem dX6_winner_19 : decode cX6_winner 19 = .ok (.bipush 7, 2) := by decide +kernel
theorem dX6_winner_21 : decode cX6_winner 21 = .ok (.invokevirtual 26, 3) := by decide +kernel
theorem dX6_winner_24 : decode cX6_winner 24 = .ok (.sipush 1792, 3) := by decide +kernel
theorem dX6_winner_27 : decode cX6_winner 27 = .ok (.istore 5, 2) := by decide +kernel
theorem dX6_winner_29 : decode cX6_winner 29 = .ok (.aload_n 0, 1) := by decide +kernel
theorem dX6_winner_30 : decode cX6_winner 30 = .ok (.iload_n 3, 1) := by decide +kernel
theorem dX6_winner_31 : decode cX6_winner 31 = .ok (.putfield 44, 3) := by decide +kernel
theorem dX6_winner_34 : decode cX6_winner 34 = .ok (.aload_n 0, 1) := by decide +kernel
theorem dX6_winner_35 : decode cX6_winner 35 = .ok (.iload 5, 2) := by decide +kernel
theorem dX6_winner_37 : decode cX6_winner 37 = .ok (.iload_n 1, 1) := by decide +kernel
theorem dX6_winner_38 : decode cX6_winner 38 = .ok (.iload_n 2, 1) := by decide +kernel
theorem dX6_winner_39 : decode cX6_winner 39 = .ok (.invokevirtual 97, 3) := by decide +kernel
theorem dX6_winner_42 : decode cX6_winner 42 = .ok (.istore 6, 2) := by decide +kernel
theorem dX6_winner_44 : decode cX6_winner 44 = .ok (.aload_n 0, 1) := by decide +kernel
theorem dX6_winner_45 : decode cX6_winner 45 = .ok (.getfield 7, 3) := by decide +kernel
theorem dX6_winner_48 : decode cX6_winner 48 = .ok (.iload 5, 2) := by decide +kernel
theorem dX6_winner_50 : decode cX6_winner 50 = .ok (.iload_n 1, 1) := by decide +kernel
theorem dX6_winner_51 : decode cX6_winner 51 = .ok (.invokestatic 30, 3) := by decide +kernel
theorem dX6_winner_54 : decode cX6_winner 54 = .ok (.bipush 7, 2) := by decide +kernel
theorem dX6_winner_56 : decode cX6_winner 56 = .ok (.iadd, 1) := by decide +kernel
theorem dX6_winner_57 : decode cX6_winner 57 = .ok (.iaload, 1) := by decide +kernel
theorem dX6_winner_58 : decode cX6_winner 58 = .ok (.istore 7, 2) := by decide +kernel
theorem dX6_winner_60 : decode cX6_winner 60 = .ok (.iload 7, 2) := by decide +kernel
theorem dX6_winner_62 : decode cX6_winner 62 = .ok (.bipush (-5), 2) := by decide +kernel
theorem dX6_winner_64 : decode cX6_winner 64 = .ok (.if_icmp .eq 8, 3) := by decide +kernel
theorem dX6_winner_67 : decode cX6_winner 67 = .ok (.iload 7, 2) := by decide +kernel
theorem dX6_winner_69 : decode cX6_winner 69 = .ok (.goto 17, 3) := by decide +kernel
theorem dX6_winner_72 : decode cX6_winner 72 = .ok (.aload_n 0, 1) := by decide +kernel
theorem dX6_winner_73 : decode cX6_winner 73 = .ok (.getfield 7, 3) := by decide +kernel
theorem dX6_winner_76 : decode cX6_winner 76 = .ok (.iload 5, 2) := by decide +kernel
theorem dX6_winner_78 : decode cX6_winner 78 = .ok (.iload_n 2, 1) := by decide +kernel
theorem dX6_winner_79 : decode cX6_winner 79 = .ok (.invokestatic 30, 3) := by decide +kernel
theorem dX6_winner_82 : decode cX6_winner 82 = .ok (.bipush 7, 2) := by decide +kernel
theorem dX6_winner_84 : decode cX6_winner 84 = .ok (.iadd, 1) := by decide +kernel
theorem dX6_winner_85 : decode cX6_winner 85 = .ok (.iaload, 1) := by decide +kernel
theorem dX6_winner_86 : decode cX6_winner 86 = .ok (.ireturn, 1) := by decide +kernel
set_option maxRecDepth 20000 in
theorem ggX6_share_X6_victories : GoodIn wsX6_share wsX6_victories := goodIn_r _ [5, 6, 7, 8, 4, 9, 16, 17, 18, 19, 20, 21, 22, 23, 24, 25, 26, 27, 28] (by decide +kernel) (by decide +kernel)
set_option maxRecDepth 20000 in
theorem gX6_share_X6_victories : GoodIn wsX6_share (wsV RX6 158 RX6 yX6_victories wsX6_victories) := goodIn_app (goodIn_of _ (by decide +kernel)) ggX6_share_X6_victories
set_option maxRecDepth 20000 in
theorem ggX6_share_X6_isPlayer : GoodIn wsX6_share wsX6_isPlayer := goodIn_r _ [12, 13, 14, 4, 15] (by decide +kernel) (by decide +kernel)
set_option maxRecDepth 20000 in
theorem gX6_share_X6_isPlayer : GoodIn wsX6_share (va_wsS RX6 71 yX6_isPlayer wsX6_isPlayer) := goodIn_app (goodIn_of _ (by decide +kernel)) ggX6_share_X6_isPlayer
theorem dX6_share_0 : decode cX6_share 0 = .ok (.aload_n 0, 1) := by decide +kernel
theorem dX6_share_1 : decode cX6_share 1 = .ok (.bipush (-5), 2) := by decide +kernel
theorem dX6_share_3 : decode cX6_share 3 = .ok (.invokevirtual 158, 3) := by decide +kernel
theorem dX6_share_6 : decode cX6_share 6 = .ok (.istore_n 2, 1) := by decide +kernel
theorem dX6_share_7 : decode cX6_share 7 = .ok (.iload_n 1, 1) := by decide +kernel
theorem dX6_share_8 : decode cX6_share 8 = .ok (.invokestatic 71, 3) := by decide +kernel
theorem dX6_share_11 : decode cX6_share 11 = .ok (.ifCond .eq 7, 3) := by decide +kernel
theorem dX6_share_14 : decode cX6_share 14 = .ok (.iload_n 2, 1) := by decide +kernel
theorem dX6_share_15 : decode cX6_share 15 = .ok (.ifCond .ne 7, 3) := by decide +kernel
theorem dX6_share_18 : decode cX6_share 18 = .ok (.fconst 0, 1) := by decide +kernel
theorem dX6_share_19 : decode cX6_share 19 = .ok (.goto 12, 3) := by decide +kernel
theorem dX6_share_22 : decode cX6_share 22 = .ok (.aload_n 0, 1) := by decide +kernel
theorem dX6_share_23 : decode cX6_share 23 = .ok (.iload_n 1, 1) := by decide +kernel
theorem dX6_share_24 : decode cX6_share 24 = .ok (.invokevirtual 158, 3) := by decide +kernel
theorem dX6_share_27 : decode cX6_share 27 = .ok (.i2f, 1) := by decide +kernel
theorem dX6_share_28 : decode cX6_share 28 = .ok (.iload_n 2, 1) := by decide +kernel
theorem dX6_share_29 : decode cX6_share 29 = .ok (.i2f, 1) := by decide +kernel
theorem dX6_share_30 : decode cX6_share 30 = .ok (.fdiv, 1) := by decide +kernel
theorem dX6_share_31 : decode cX6_share 31 = .ok (.freturn, 1) := by decide +kernel
theorem dJ9_max_7cf53_0 : decode cJ9_max_7cf53 0 = .ok (.iload_n 0, 1) := by decide +kernel
theorem dJ9_max_7cf53_1 : decode cJ9_max_7cf53 1 = .ok (.iload_n 1, 1) := by decide +kernel
theorem dJ9_max_7cf53_2 : decode cJ9_max_7cf53 2 = .ok (.if_icmp .lt 7, 3) := by decide +kernel
theorem dJ9_max_7cf53_5 : decode cJ9_max_7cf53 5 = .ok (.iload_n 0, 1) := by decide +kernel
theorem dJ9_max_7cf53_6 : decode cJ9_max_7cf53 6 = .ok (.goto 4, 3) := by decide +kernel
theorem dJ9_max_7cf53_9 : decode cJ9_max_7cf53 9 = .ok (.iload_n 1, 1) := by decide +kernel
theorem dJ9_max_7cf53_10 : decode cJ9_max_7cf53 10 = .ok (.ireturn, 1) := by decide +kernel
theorem dJ9_min_7cf53_0 : decode cJ9_min_7cf53 0 = .ok (.iload_n 0, 1) := by decide +kernel
theorem dJ9_min_7cf53_1 : decode cJ9_min_7cf53 1 = .ok (.iload_n 1, 1) := by decide +kernel
theorem dJ9_min_7cf53_2 : decode cJ9_min_7cf53 2 = .ok (.if_icmp .gt 7, 3) := by decide +kernel
theorem dJ9_min_7cf53_5 : decode cJ9_min_7cf53 5 = .ok (.iload_n 0, 1) := by decide +kernel
theorem dJ9_min_7cf53_6 : decode cJ9_min_7cf53 6 = .ok (.goto 4, 3) := by decide +kernel
theorem dJ9_min_7cf53_9 : decode cJ9_min_7cf53 9 = .ok (.iload_n 1, 1) := by decide +kernel
theorem dJ9_min_7cf53_10 : decode cJ9_min_7cf53 10 = .ok (.ireturn, 1) := by decide +kernel
set_option maxRecDepth 20000 in
theorem ggL_law_X5_init : GoodIn wsL_law wsX5_init := goodIn_r _ [8, 9, 10, 11, 12, 13, 14, 15, 16, 17, 18, 19, 20, 21, 22, 23, 24, 25, 26, 27, 28, 29, 30, 31, 32, 33, 34, 35, 36, 37, 38, 39, 40, 41, 42, 43, 44, 45, 46, 47, 48, 49, 50, 51, 52, 53, 54, 55, 56, 57, 58, 59, 60, 61, 62, 63, 64, 65, 66, 67, 68, 69, 70, 71, 72, 73, 74, 75, 76, 77, 78, 79, 80, 706, 707, 708, 709, 710, 711, 712, 713, 714, 715, 716, 717, 718, 685, 686, 687, 688, 689, 690, 691, 692, 719, 720, 721, 722, 723, 724, 725, 726, 727, 728, 729, 730] (by decide +kernel) (by decide +kernel)
set_option maxRecDepth 20000 in
theorem gL_law_X5_init : GoodIn wsL_law (wsX5_init) := ggL_law_X5_init
set_option maxRecDepth 20000 in
theorem ggL_law_X6_init : GoodIn wsL_law wsX6_init := goodIn_r _ [83, 84, 10, 11, 39, 85, 86, 87, 88, 693, 694, 695, 696, 697, 698, 699, 700, 701, 702, 703, 704, 705] (by decide +kernel) (by decide +kernel)
set_option maxRecDepth 20000 in
theorem gL_law_X6_init : GoodIn wsL_law (wsX6_init) := ggL_law_X6_init
set_option maxRecDepth 20000 in
theorem ggL_law_X5_thread : GoodIn wsL_law wsX5_thread := goodIn_r _ [92, 15, 93, 94, 21, 95, 96, 2, 97, 98, 99, 100, 101, 102, 103, 20, 104, 59, 58, 105, 106, 107, 108, 109, 110, 111, 14, 112, 40, 113, 114, 115, 116, 41, 42, 43, 44, 45, 46, 47, 48, 49, 50, 51, 52, 117, 118, 119, 120, 685, 686, 687, 688, 689, 690, 691, 692, 706, 707, 708, 709, 710, 711, 712, 713, 714, 715, 716, 717, 718, 719, 720] (by decide +kernel) (by decide +kernel)
set_option maxRecDepth 20000 in
theorem gL_law_X5_thread : GoodIn wsL_law (wsV RL 13 RX5 yX5_thread wsX5_thread) := goodIn_app (goodIn_of _ (by decide +kernel)) ggL_law_X5_thread
set_option maxRecDepth 20000 in
theorem ggL_law_X6_thread : GoodIn wsL_law wsX6_thread := goodIn_r _ [124, 85, 125, 126, 5, 127, 128, 129, 130, 131, 132, 133, 134, 135, 136, 137, 138, 139, 140, 141, 142, 693, 694, 695, 696, 697, 698, 699, 700, 701, 702, 703, 704, 705] (by decide +kernel) (by decide +kernel)
set_option maxRecDepth 20000 in
theorem gL_law_X6_thread : GoodIn wsL_law (wsV RL 17 RX6 yX6_thread wsX6_thread) := goodIn_app (goodIn_of _ (by decide +kernel)) ggL_law_X6_thread
set_option maxRecDepth 20000 in
theorem ggL_law_X5_give : GoodIn wsL_law wsX5_give := goodIn_r _ [146, 15, 93, 21, 95, 96, 2, 97, 98, 99, 100, 101, 102, 103, 20, 104, 59, 58, 105, 106, 107, 108, 109, 110, 111, 14, 112, 40, 113, 114, 115, 116, 41, 42, 43, 44, 45, 46, 47, 48, 49, 50, 51, 52, 685, 686, 687, 688, 689, 690, 691, 692, 706, 707, 708, 709, 710, 711, 712, 713, 714, 715, 716, 717, 718, 719, 720] (by decide +kernel) (by decide +kernel)
set_option maxRecDepth 20000 in
theorem gL_law_X5_give : GoodIn wsL_law (wsV RL 18 RX5 yX5_give wsX5_give) := goodIn_app (goodIn_of _ (by decide +kernel)) ggL_law_X5_give
set_option maxRecDepth 20000 in
theorem ggL_law_X6_give : GoodIn wsL_law wsX6_give := goodIn_r _ [150, 85, 125, 126, 5, 127, 128, 129, 130, 131, 132, 133, 134, 135, 136, 137, 138, 139, 693, 694, 695, 696, 697, 698, 699, 700, 701, 702, 703, 704, 705] (by decide +kernel) (by decide +kernel)
set_option maxRecDepth 20000 in
theorem gL_law_X6_give : GoodIn wsL_law (wsV RL 21 RX6 yX6_give wsX6_give) := goodIn_app (goodIn_of _ (by decide +kernel)) ggL_law_X6_give
set_option maxRecDepth 20000 in
theorem ggL_law_X5_strike : GoodIn wsL_law wsX5_strike := goodIn_r _ [154, 15, 21, 155, 156, 157, 14, 158, 99, 2, 100, 159, 160, 161, 162, 42, 163, 164, 165, 166, 50, 167, 168, 169, 170, 48, 101, 102, 103, 20, 104, 59, 58, 105, 106, 107, 108, 109, 110, 111, 112, 40, 113, 114, 115, 116, 41, 43, 44, 45, 46, 47, 49, 51, 52, 171, 172, 173, 174, 175, 176, 177, 178, 179, 180, 181, 182, 183, 184, 185, 186, 187, 188, 189, 190, 191, 192, 193, 194, 195, 196, 197, 198, 199, 200, 201, 202, 203, 204, 205, 685, 686, 687, 688, 689, 690, 691, 692, 706, 707, 708, 709, 710, 711, 712, 713, 714, 715, 716, 717, 718, 719, 720] (by decide +kernel) (by decide +kernel)
set_option maxRecDepth 20000 in
theorem gL_law_X5_strike : GoodIn wsL_law (wsV RL 22 RX5 yX5_strike wsX5_strike) := goodIn_app (goodIn_of _ (by decide +kernel)) ggL_law_X5_strike
set_option maxRecDepth 20000 in
theorem ggL_law_X6_strike : GoodIn wsL_law wsX6_strike := goodIn_r _ [209, 210, 211, 212, 5, 213, 128, 129, 130, 214, 215, 216, 217, 85, 218, 219, 220, 221, 140, 141, 142, 131, 132, 133, 134, 135, 136, 137, 138, 139, 222, 223, 224, 225, 226, 227, 228, 229, 230, 231, 232, 233, 234, 235, 693, 694, 695, 696, 697, 698, 699, 700, 701, 702, 703, 704, 705] (by decide +kernel) (by decide +kernel)
set_option maxRecDepth 20000 in
theorem gL_law_X6_strike : GoodIn wsL_law (wsV RL 26 RX6 yX6_strike wsX6_strike) := goodIn_app (goodIn_of _ (by decide +kernel)) ggL_law_X6_strike
set_option maxRecDepth 20000 in
theorem ggL_law_X5_mend : GoodIn wsL_law wsX5_mend := goodIn_r _ [239, 15, 21, 240, 241, 242, 14, 243, 40, 42, 244, 245, 246, 247, 48, 163, 164, 165, 166, 50, 99, 2, 100, 101, 102, 103, 20, 104, 59, 58, 105, 106, 107, 108, 109, 110, 111, 112, 113, 114, 115, 116, 41, 43, 44, 45, 46, 47, 49, 51, 52, 248, 249, 250, 251, 685, 686, 687, 688, 689, 690, 691, 692, 706, 707, 708, 709, 710, 711, 712, 713, 714, 715, 716, 717, 718, 719, 720] (by decide +kernel) (by decide +kernel)
set_option maxRecDepth 20000 in
theorem gL_law_X5_mend : GoodIn wsL_law (wsV RL 27 RX5 yX5_mend wsX5_mend) := goodIn_app (goodIn_of _ (by decide +kernel)) ggL_law_X5_mend
set_option maxRecDepth 20000 in
theorem ggL_law_X6_mend : GoodIn wsL_law wsX6_mend := goodIn_r _ [255, 256, 257, 258, 5, 259, 85, 218, 219, 220, 221, 128, 129, 130, 140, 141, 142, 260, 261, 262, 263, 131, 132, 133, 134, 135, 136, 137, 138, 139, 264, 265, 266, 267, 693, 694, 695, 696, 697, 698, 699, 700, 701, 702, 703, 704, 705] (by decide +kernel) (by decide +kernel)
set_option maxRecDepth 20000 in
theorem gL_law_X6_mend : GoodIn wsL_law (wsV RL 31 RX6 yX6_mend wsX6_mend) := goodIn_app (goodIn_of _ (by decide +kernel)) ggL_law_X6_mend
set_option maxRecDepth 20000 in
theorem ggL_law_X5_stamp : GoodIn wsL_law wsX5_stamp := goodIn_r _ [271, 15, 21, 272, 245, 246, 14, 247, 48, 163, 164, 165, 166, 50, 99, 2, 100, 101, 102, 103, 20, 104, 59, 58, 105, 106, 107, 108, 109, 110, 111, 112, 40, 113, 114, 115, 116, 41, 42, 43, 44, 45, 46, 47, 49, 51, 52, 273, 187, 188, 189, 190, 191, 192, 193, 685, 686, 687, 688, 689, 690, 691, 692, 706, 707, 708, 709, 710, 711, 712, 713, 714, 715, 716, 717, 718, 719, 720] (by decide +kernel) (by decide +kernel)
set_option maxRecDepth 20000 in
theorem gL_law_X5_stamp : GoodIn wsL_law (wsV RL 32 RX5 yX5_stamp wsX5_stamp) := goodIn_app (goodIn_of _ (by decide +kernel)) ggL_law_X5_stamp
set_option maxRecDepth 20000 in
theorem ggL_law_X6_stamp : GoodIn wsL_law wsX6_stamp := goodIn_r _ [277, 278, 279, 280, 5, 281, 85, 218, 219, 220, 221, 128, 129, 130, 140, 141, 142, 131, 132, 133, 134, 135, 136, 137, 138, 139, 282, 283, 284, 285, 229, 230, 231, 232, 693, 694, 695, 696, 697, 698, 699, 700, 701, 702, 703, 704, 705] (by decide +kernel) (by decide +kernel)
set_option maxRecDepth 20000 in
theorem gL_law_X6_stamp : GoodIn wsL_law (wsV RL 35 RX6 yX6_stamp wsX6_stamp) := goodIn_app (goodIn_of _ (by decide +kernel)) ggL_law_X6_stamp
set_option maxRecDepth 20000 in
theorem ggL_law_X5_boast : GoodIn wsL_law wsX5_boast := goodIn_r _ [289, 15, 290, 21, 291, 292, 164, 165, 14, 166, 50, 99, 2, 100, 98, 101, 102, 103, 20, 104, 59, 58, 105, 106, 107, 108, 109, 110, 111, 112, 40, 113, 114, 115, 116, 41, 42, 43, 44, 45, 46, 47, 48, 49, 51, 52, 685, 686, 687, 688, 689, 690, 691, 692, 706, 707, 708, 709, 710, 711, 712, 713, 714, 715, 716, 717, 718, 719, 720] (by decide +kernel) (by decide +kernel)
set_option maxRecDepth 20000 in
theorem gL_law_X5_boast : GoodIn wsL_law (wsV RL 36 RX5 yX5_boast wsX5_boast) := goodIn_app (goodIn_of _ (by decide +kernel)) ggL_law_X5_boast
set_option maxRecDepth 20000 in
theorem ggL_law_X6_boast : GoodIn wsL_law wsX6_boast := goodIn_r _ [296, 85, 218, 219, 220, 5, 221, 128, 129, 130, 140, 141, 142, 131, 132, 133, 134, 135, 136, 137, 138, 139, 693, 694, 695, 696, 697, 698, 699, 700, 701, 702, 703, 704, 705] (by decide +kernel) (by decide +kernel)
set_option maxRecDepth 20000 in
theorem gL_law_X6_boast : GoodIn wsL_law (wsV RL 39 RX6 yX6_boast wsX6_boast) := goodIn_app (goodIn_of _ (by decide +kernel)) ggL_law_X6_boast
set_option maxRecDepth 20000 in
theorem ggL_law_X5_doubt : GoodIn wsL_law wsX5_doubt := goodIn_r _ [300, 15, 301, 291, 21, 95, 96, 2, 97, 98, 99, 100, 292, 164, 165, 14, 166, 50, 101, 102, 103, 20, 104, 59, 58, 105, 106, 107, 108, 109, 110, 111, 112, 40, 113, 114, 115, 116, 41, 42, 43, 44, 45, 46, 47, 48, 49, 51, 52, 302, 303, 304, 305, 685, 686, 687, 688, 689, 690, 691, 692, 706, 707, 708, 709, 710, 711, 712, 713, 714, 715, 716, 717, 718, 719, 720] (by decide +kernel) (by decide +kernel)
end
section
set_option maxRecDepth 20000 in
theorem gL_law_X5_doubt : GoodIn wsL_law (wsV RL 40 RX5 yX5_doubt wsX5_doubt) := goodIn_app (goodIn_of _ (by decide +kernel)) ggL_law_X5_doubt
set_option maxRecDepth 20000 in
theorem ggL_law_X6_doubt : GoodIn wsL_law wsX6_doubt := goodIn_r _ [309, 85, 125, 126, 5, 127, 128, 129, 130, 218, 219, 220, 221, 140, 141, 142, 131, 132, 133, 134, 135, 136, 137, 138, 139, 693, 694, 695, 696, 697, 698, 699, 700, 701, 702, 703, 704, 705] (by decide +kernel) (by decide +kernel)
set_option maxRecDepth 20000 in
theorem gL_law_X6_doubt : GoodIn wsL_law (wsV RL 43 RX6 yX6_doubt wsX6_doubt) := goodIn_app (goodIn_of _ (by decide +kernel)) ggL_law_X6_doubt
set_option maxRecDepth 20000 in
theorem ggL_law_X5_bout : GoodIn wsL_law wsX5_bout := goodIn_r _ [313, 15, 21, 29, 314, 315, 316, 14, 317, 318, 99, 2, 100, 159, 160, 161, 162, 42, 163, 164, 165, 166, 50, 167, 168, 169, 170, 48, 101, 102, 103, 20, 104, 59, 58, 105, 106, 107, 108, 109, 110, 111, 112, 40, 113, 114, 115, 116, 41, 43, 44, 45, 46, 47, 49, 51, 52, 319, 320, 321, 28, 322, 75, 323, 324, 325, 326, 175, 176, 177, 178, 327, 328, 329, 330, 331, 332, 333, 334, 335, 336, 337, 338, 339, 172, 173, 174, 179, 180, 181, 182, 183, 184, 185, 186, 187, 188, 189, 190, 191, 192, 193, 194, 195, 196, 197, 198, 199, 200, 201, 202, 203, 204, 205, 685, 686, 687, 688, 689, 690, 691, 692, 706, 707, 708, 709, 710, 711, 712, 713, 714, 715, 716, 717, 718, 719, 720, 728] (by decide +kernel) (by decide +kernel)
set_option maxRecDepth 20000 in
theorem gL_law_X5_bout : GoodIn wsL_law (wsV RL 44 RX5 yX5_bout wsX5_bout) := goodIn_app (goodIn_of _ (by decide +kernel)) ggL_law_X5_bout
set_option maxRecDepth 20000 in
theorem ggL_law_X6_bout : GoodIn wsL_law wsX6_bout := goodIn_r _ [343, 344, 345, 346, 347, 5, 348, 349, 128, 129, 130, 214, 215, 216, 217, 85, 218, 219, 220, 221, 140, 141, 142, 131, 132, 133, 134, 135, 136, 137, 138, 139, 350, 351, 352, 353, 226, 227, 228, 354, 355, 356, 357, 358, 222, 223, 224, 225, 229, 230, 231, 232, 233, 234, 235, 693, 694, 695, 696, 697, 698, 699, 700, 701, 702, 703, 704, 705] (by decide +kernel) (by decide +kernel)
set_option maxRecDepth 20000 in
theorem gL_law_X6_bout : GoodIn wsL_law (wsV RL 47 RX6 yX6_bout wsX6_bout) := goodIn_app (goodIn_of _ (by decide +kernel)) ggL_law_X6_bout
set_option maxRecDepth 20000 in
theorem ggL_law_X5_round : GoodIn wsL_law wsX5_round := goodIn_r _ [362, 363, 21, 15, 29, 33, 364, 98, 99, 2, 100, 101, 102, 103, 20, 104, 59, 58, 105, 106, 107, 108, 109, 110, 111, 14, 112, 40, 113, 114, 115, 116, 41, 42, 43, 44, 45, 46, 47, 48, 49, 50, 51, 52, 319, 320, 321, 28, 322, 75, 365, 366, 367, 32, 368, 80, 369, 370, 371, 372, 373, 374, 375, 376, 377, 378, 79, 379, 335, 336, 337, 338, 380, 381, 382, 383, 323, 324, 325, 326, 175, 176, 177, 178, 327, 328, 329, 167, 168, 169, 170, 330, 331, 332, 333, 334, 339, 172, 173, 174, 179, 180, 181, 182, 183, 184, 185, 186, 187, 188, 189, 190, 191, 192, 193, 194, 195, 196, 197, 198, 199, 200, 201, 202, 203, 204, 205, 685, 686, 687, 688, 689, 690, 691, 692, 729, 730, 719, 720, 706, 707, 708, 709, 710, 711, 712, 713, 714, 715, 716, 717, 718, 728] (by decide +kernel) (by decide +kernel)
set_option maxRecDepth 20000 in
theorem gL_law_X5_round : GoodIn wsL_law (wsV RL 48 RX5 yX5_round wsX5_round) := goodIn_app (goodIn_of _ (by decide +kernel)) ggL_law_X5_round
set_option maxRecDepth 20000 in
theorem ggL_law_X6_round : GoodIn wsL_law wsX6_round := goodIn_r _ [387, 349, 344, 88, 87, 128, 129, 5, 130, 131, 132, 133, 134, 135, 136, 137, 138, 139, 85, 388, 389, 390, 391, 392, 393, 394, 395, 140, 141, 142, 354, 355, 356, 357, 358, 350, 351, 352, 353, 226, 227, 228, 222, 223, 224, 225, 229, 230, 231, 232, 233, 234, 235, 693, 694, 695, 696, 697, 698, 699, 700, 701, 702, 703, 704, 705] (by decide +kernel) (by decide +kernel)
set_option maxRecDepth 20000 in
theorem gL_law_X6_round : GoodIn wsL_law (wsV RL 51 RX6 yX6_round wsX6_round) := goodIn_app (goodIn_of _ (by decide +kernel)) ggL_law_X6_round
set_option maxRecDepth 20000 in
theorem ggL_law_X5_append : GoodIn wsL_law wsX5_append := goodIn_r _ [399, 25, 400, 401, 98, 99, 2, 100, 685, 686, 687, 688, 689, 690, 691, 692, 721, 722, 723, 724, 725, 726, 727] (by decide +kernel) (by decide +kernel)
set_option maxRecDepth 20000 in
theorem gL_law_X5_append : GoodIn wsL_law (wsV RL 52 RX5 yX5_append wsX5_append) := goodIn_app (goodIn_of _ (by decide +kernel)) ggL_law_X5_append
set_option maxRecDepth 20000 in
theorem ggL_law_X6_append : GoodIn wsL_law wsX6_append := goodIn_r _ [405, 406, 86, 128, 129, 5, 130, 693, 694, 695, 696, 697, 698, 699, 700, 701, 702, 703, 704, 705] (by decide +kernel) (by decide +kernel)
set_option maxRecDepth 20000 in
theorem gL_law_X6_append : GoodIn wsL_law (wsV RL 55 RX6 yX6_append wsX6_append) := goodIn_app (goodIn_of _ (by decide +kernel)) ggL_law_X6_append
set_option maxRecDepth 20000 in
theorem ggL_law_X5_clearText : GoodIn wsL_law wsX5_clearText := goodIn_r _ [410, 25, 400, 685, 686, 687, 688, 689, 690, 691, 692, 721, 722, 723, 724, 725, 726, 727] (by decide +kernel) (by decide +kernel)
set_option maxRecDepth 20000 in
theorem gL_law_X5_clearText : GoodIn wsL_law (wsV RL 56 RX5 yX5_clearText wsX5_clearText) := goodIn_app (goodIn_of _ (by decide +kernel)) ggL_law_X5_clearText
set_option maxRecDepth 20000 in
theorem ggL_law_X6_clearText : GoodIn wsL_law wsX6_clearText := goodIn_r _ [414, 406, 693, 694, 695, 696, 697, 698, 699, 700, 701, 702, 703, 704, 705] (by decide +kernel) (by decide +kernel)
set_option maxRecDepth 20000 in
theorem gL_law_X6_clearText : GoodIn wsL_law (wsV RL 60 RX6 yX6_clearText wsX6_clearText) := goodIn_app (goodIn_of _ (by decide +kernel)) ggL_law_X6_clearText
set_option maxRecDepth 20000 in
theorem ggL_law_X5_fault : GoodIn wsL_law wsX5_fault := goodIn_r _ [418, 25, 419, 420, 421, 24, 422, 67, 66, 423, 424, 425, 426, 427, 428, 429, 430, 68, 69, 70, 71, 431, 432, 433, 434, 65, 435, 436, 437, 438, 439, 440, 441, 442, 443, 444, 445, 446, 685, 686, 687, 688, 689, 690, 691, 692, 721, 722, 723, 724, 725, 726, 727] (by decide +kernel) (by decide +kernel)
set_option maxRecDepth 20000 in
theorem gL_law_X5_fault : GoodIn wsL_law (wsV RL 61 RX5 yX5_fault wsX5_fault) := goodIn_app (goodIn_of _ (by decide +kernel)) ggL_law_X5_fault
set_option maxRecDepth 20000 in
theorem ggL_law_X6_fault : GoodIn wsL_law wsX6_fault := goodIn_r _ [450, 451, 406, 452, 453, 454, 5, 455, 456, 457, 458, 86, 459, 460, 461, 462, 463, 464, 465, 466, 467, 128, 129, 130, 233, 234, 235, 468, 469, 470, 471, 693, 694, 695, 696, 697, 698, 699, 700, 701, 702, 703, 704, 705] (by decide +kernel) (by decide +kernel)
set_option maxRecDepth 20000 in
theorem gL_law_X6_fault : GoodIn wsL_law (wsV RL 64 RX6 yX6_fault wsX6_fault) := goodIn_app (goodIn_of _ (by decide +kernel)) ggL_law_X6_fault
set_option maxRecDepth 20000 in
theorem ggL_law_X5_run : GoodIn wsL_law wsX5_run := goodIn_r _ [475, 25, 21, 15, 419, 420, 421, 24, 422, 67, 66, 423, 424, 425, 426, 427, 428, 429, 430, 68, 69, 70, 71, 431, 432, 433, 434, 65, 435, 436, 437, 438, 439, 440, 441, 442, 443, 444, 445, 446, 101, 102, 103, 20, 104, 59, 58, 105, 106, 107, 108, 109, 110, 111, 14, 112, 40, 113, 114, 115, 116, 41, 42, 43, 44, 45, 46, 47, 48, 49, 50, 51, 52, 476, 477, 478, 479, 480, 2, 481, 482, 483, 484, 485, 240, 241, 242, 243, 244, 245, 246, 247, 163, 164, 165, 166, 99, 100, 248, 249, 250, 251, 272, 273, 187, 188, 189, 190, 191, 192, 193, 155, 156, 157, 158, 159, 160, 161, 162, 167, 168, 169, 170, 171, 172, 173, 174, 175, 176, 177, 178, 179, 180, 181, 182, 183, 184, 185, 186, 194, 195, 196, 197, 198, 199, 200, 201, 202, 203, 204, 205, 486, 685, 686, 687, 688, 689, 690, 691, 692, 721, 722, 723, 724, 725, 726, 727, 719, 720, 706, 707, 708, 709, 710, 711, 712, 713, 714, 715, 716, 717, 718] (by decide +kernel) (by decide +kernel)
set_option maxRecDepth 20000 in
theorem gL_law_X5_run : GoodIn wsL_law (wsV RL 65 RX5 yX5_run wsX5_run) := goodIn_app (goodIn_of _ (by decide +kernel)) ggL_law_X5_run
set_option maxRecDepth 20000 in
theorem ggL_law_X6_run : GoodIn wsL_law wsX6_run := goodIn_r _ [490, 451, 491, 448, 449, 5, 450, 406, 452, 453, 454, 455, 456, 457, 458, 86, 459, 460, 461, 462, 463, 464, 465, 466, 467, 128, 129, 130, 233, 234, 235, 468, 469, 470, 471, 131, 132, 133, 134, 135, 136, 137, 138, 139, 85, 492, 493, 494, 495, 256, 257, 258, 259, 218, 219, 220, 221, 140, 141, 142, 260, 261, 262, 263, 278, 279, 280, 281, 210, 211, 212, 213, 214, 215, 216, 217, 496, 497, 498, 499, 264, 265, 266, 267, 282, 283, 284, 285, 229, 230, 231, 232, 222, 223, 224, 225, 226, 227, 228, 693, 694, 695, 696, 697, 698, 699, 700, 701, 702, 703, 704, 705] (by decide +kernel) (by decide +kernel)
set_option maxRecDepth 20000 in
theorem gL_law_X6_run : GoodIn wsL_law (wsV RL 68 RX6 yX6_run wsX6_run) := goodIn_app (goodIn_of _ (by decide +kernel)) ggL_law_X6_run
set_option maxRecDepth 20000 in
theorem ggL_law_X5_undo : GoodIn wsL_law wsX5_undo := goodIn_r _ [503, 21, 15, 504, 505, 506, 20, 507, 59, 58, 109, 110, 111, 14, 112, 40, 113, 114, 115, 116, 41, 42, 43, 44, 45, 46, 47, 48, 49, 50, 51, 52, 685, 686, 687, 688, 689, 690, 691, 692, 719, 720, 706, 707, 708, 709, 710, 711, 712, 713, 714, 715, 716, 717, 718] (by decide +kernel) (by decide +kernel)
set_option maxRecDepth 20000 in
theorem gL_law_X5_undo : GoodIn wsL_law (wsV RL 69 RX5 yX5_undo wsX5_undo) := goodIn_app (goodIn_of _ (by decide +kernel)) ggL_law_X5_undo
set_option maxRecDepth 20000 in
theorem ggL_law_X6_undo : GoodIn wsL_law wsX6_undo := goodIn_r _ [511, 135, 136, 137, 138, 5, 139, 85, 693, 694, 695, 696, 697, 698, 699, 700, 701, 702, 703, 704, 705] (by decide +kernel) (by decide +kernel)
set_option maxRecDepth 20000 in
theorem gL_law_X6_undo : GoodIn wsL_law (wsV RL 72 RX6 yX6_undo wsX6_undo) := goodIn_app (goodIn_of _ (by decide +kernel)) ggL_law_X6_undo
set_option maxRecDepth 20000 in
theorem ggL_law_X5_save : GoodIn wsL_law wsX5_save := goodIn_r _ [515, 16, 15, 34, 516, 110, 111, 14, 112, 40, 113, 114, 115, 116, 41, 42, 43, 44, 45, 46, 47, 48, 49, 50, 51, 52, 517, 518, 519, 520, 521, 522, 523, 524, 685, 686, 687, 688, 689, 690, 691, 692, 706, 707, 708, 709, 710, 711, 712, 713, 714, 715, 716, 717, 718] (by decide +kernel) (by decide +kernel)
set_option maxRecDepth 20000 in
theorem gL_law_X5_save : GoodIn wsL_law (wsV RL 73 RX5 yX5_save wsX5_save) := goodIn_app (goodIn_of _ (by decide +kernel)) ggL_law_X5_save
set_option maxRecDepth 20000 in
theorem ggL_law_X6_save : GoodIn wsL_law wsX6_save := goodIn_r _ [528, 529, 136, 137, 138, 5, 139, 85, 530, 531, 532, 533, 140, 141, 142, 233, 234, 235, 693, 694, 695, 696, 697, 698, 699, 700, 701, 702, 703, 704, 705] (by decide +kernel) (by decide +kernel)
set_option maxRecDepth 20000 in
theorem gL_law_X6_save : GoodIn wsL_law (wsV RL 76 RX6 yX6_save wsX6_save) := goodIn_app (goodIn_of _ (by decide +kernel)) ggL_law_X6_save
set_option maxRecDepth 20000 in
theorem ggL_law_X5_restore : GoodIn wsL_law wsX5_restore := goodIn_r _ [537, 34, 21, 15, 16, 101, 102, 103, 20, 104, 59, 58, 105, 106, 107, 108, 109, 110, 111, 14, 112, 40, 113, 114, 115, 116, 41, 42, 43, 44, 45, 46, 47, 48, 49, 50, 51, 52, 516, 517, 518, 519, 520, 521, 522, 523, 524, 685, 686, 687, 688, 689, 690, 691, 692, 719, 720, 706, 707, 708, 709, 710, 711, 712, 713, 714, 715, 716, 717, 718] (by decide +kernel) (by decide +kernel)
set_option maxRecDepth 20000 in
theorem gL_law_X5_restore : GoodIn wsL_law (wsV RL 77 RX5 yX5_restore wsX5_restore) := goodIn_app (goodIn_of _ (by decide +kernel)) ggL_law_X5_restore
set_option maxRecDepth 20000 in
theorem ggL_law_X6_restore : GoodIn wsL_law wsX6_restore := goodIn_r _ [541, 529, 131, 132, 133, 5, 134, 135, 136, 137, 138, 139, 85, 530, 531, 532, 533, 140, 141, 142, 233, 234, 235, 693, 694, 695, 696, 697, 698, 699, 700, 701, 702, 703, 704, 705] (by decide +kernel) (by decide +kernel)
set_option maxRecDepth 20000 in
theorem gL_law_X6_restore : GoodIn wsL_law (wsV RL 80 RX6 yX6_restore wsX6_restore) := goodIn_app (goodIn_of _ (by decide +kernel)) ggL_law_X6_restore
set_option maxRecDepth 20000 in
theorem ggL_law_X5_conker : GoodIn wsL_law wsX5_conker := goodIn_r _ [545, 15, 301, 546, 547, 548, 549, 291, 290, 550, 292, 164, 165, 14, 166, 50, 99, 2, 100, 551, 552, 553, 554, 49, 685, 686, 687, 688, 689, 690, 691, 692, 706, 707, 708, 709, 710, 711, 712, 713, 714, 715, 716, 717, 718] (by decide +kernel) (by decide +kernel)
set_option maxRecDepth 20000 in
theorem gL_law_X5_conker : GoodIn wsL_law (wsV RL 81 RX5 yX5_conker wsX5_conker) := goodIn_app (goodIn_of _ (by decide +kernel)) ggL_law_X5_conker
set_option maxRecDepth 20000 in
theorem ggL_law_X6_conker : GoodIn wsL_law wsX6_conker := goodIn_r _ [558, 85, 218, 219, 220, 5, 221, 128, 129, 130, 140, 141, 142, 559, 560, 561, 562, 233, 234, 235, 693, 694, 695, 696, 697, 698, 699, 700, 701, 702, 703, 704, 705] (by decide +kernel) (by decide +kernel)
set_option maxRecDepth 20000 in
theorem gL_law_X6_conker : GoodIn wsL_law (wsV RL 84 RX6 yX6_conker wsX6_conker) := goodIn_app (goodIn_of _ (by decide +kernel)) ggL_law_X6_conker
set_option maxRecDepth 20000 in
theorem ggL_law_X5_player : GoodIn wsL_law wsX5_player := goodIn_r _ [566, 15, 93, 567, 95, 96, 2, 97, 98, 99, 100, 517, 518, 519, 14, 520, 50, 48, 521, 522, 523, 524, 42, 568, 569, 570, 571, 46, 572, 370, 371, 372, 685, 686, 687, 688, 689, 690, 691, 692, 706, 707, 708, 709, 710, 711, 712, 713, 714, 715, 716, 717, 718] (by decide +kernel) (by decide +kernel)
set_option maxRecDepth 20000 in
theorem gL_law_X5_player : GoodIn wsL_law (wsV RL 85 RX5 yX5_player wsX5_player) := goodIn_app (goodIn_of _ (by decide +kernel)) ggL_law_X5_player
set_option maxRecDepth 20000 in
theorem ggL_law_X6_player : GoodIn wsL_law wsX6_player := goodIn_r _ [576, 85, 125, 126, 5, 127, 128, 129, 130, 530, 531, 532, 533, 140, 141, 142, 233, 234, 235, 577, 578, 579, 580, 392, 393, 394, 395, 693, 694, 695, 696, 697, 698, 699, 700, 701, 702, 703, 704, 705] (by decide +kernel) (by decide +kernel)
set_option maxRecDepth 20000 in
theorem gL_law_X6_player : GoodIn wsL_law (wsV RL 88 RX6 yX6_player wsX6_player) := goodIn_app (goodIn_of _ (by decide +kernel)) ggL_law_X6_player
set_option maxRecDepth 20000 in
theorem ggL_law_X5_ranked : GoodIn wsL_law wsX5_ranked := goodIn_r _ [584, 15, 585, 586, 587, 14, 588, 50, 48, 589, 590, 591, 592, 46, 685, 686, 687, 688, 689, 690, 691, 692, 706, 707, 708, 709, 710, 711, 712, 713, 714, 715, 716, 717, 718] (by decide +kernel) (by decide +kernel)
set_option maxRecDepth 20000 in
theorem gL_law_X5_ranked : GoodIn wsL_law (wsV RL 89 RX5 yX5_ranked wsX5_ranked) := goodIn_app (goodIn_of _ (by decide +kernel)) ggL_law_X5_ranked
set_option maxRecDepth 20000 in
theorem ggL_law_X6_ranked : GoodIn wsL_law wsX6_ranked := goodIn_r _ [596, 85, 140, 141, 5, 142, 597, 598, 599, 600, 233, 234, 235, 693, 694, 695, 696, 697, 698, 699, 700, 701, 702, 703, 704, 705] (by decide +kernel) (by decide +kernel)
set_option maxRecDepth 20000 in
theorem gL_law_X6_ranked : GoodIn wsL_law (wsV RL 92 RX6 yX6_ranked wsX6_ranked) := goodIn_app (goodIn_of _ (by decide +kernel)) ggL_law_X6_ranked
set_option maxRecDepth 20000 in
theorem ggL_law_X5_line : GoodIn wsL_law wsX5_line := goodIn_r _ [604, 15, 292, 164, 165, 14, 166, 50, 99, 2, 100, 605, 606, 607, 608, 609, 610, 611, 612, 49, 163, 685, 686, 687, 688, 689, 690, 691, 692, 706, 707, 708, 709, 710, 711, 712, 713, 714, 715, 716, 717, 718] (by decide +kernel) (by decide +kernel)
set_option maxRecDepth 20000 in
theorem gL_law_X5_line : GoodIn wsL_law (wsV RL 93 RX5 yX5_line wsX5_line) := goodIn_app (goodIn_of _ (by decide +kernel)) ggL_law_X5_line
set_option maxRecDepth 20000 in
theorem ggL_law_X6_line : GoodIn wsL_law wsX6_line := goodIn_r _ [616, 85, 218, 219, 220, 5, 221, 128, 129, 130, 617, 618, 619, 620, 140, 141, 142, 233, 234, 235, 693, 694, 695, 696, 697, 698, 699, 700, 701, 702, 703, 704, 705] (by decide +kernel) (by decide +kernel)
set_option maxRecDepth 20000 in
theorem gL_law_X6_line : GoodIn wsL_law (wsV RL 96 RX6 yX6_line wsX6_line) := goodIn_app (goodIn_of _ (by decide +kernel)) ggL_law_X6_line
set_option maxRecDepth 20000 in
theorem ggL_law_X5_count : GoodIn wsL_law wsX5_count := goodIn_r _ [624, 15, 94, 625, 626, 21, 627, 25, 400, 517, 518, 519, 14, 520, 50, 48, 521, 522, 523, 524, 42, 568, 569, 570, 571, 46, 628, 629, 630, 631, 632, 552, 553, 554, 49, 633, 634, 635, 636, 47, 637, 638, 639, 640, 685, 686, 687, 688, 689, 690, 691, 692, 706, 707, 708, 709, 710, 711, 712, 713, 714, 715, 716, 717, 718, 719, 720, 721, 722, 723, 724, 725, 726, 727] (by decide +kernel) (by decide +kernel)
set_option maxRecDepth 20000 in
theorem gL_law_X5_count : GoodIn wsL_law (wsV RL 97 RX5 yX5_count wsX5_count) := goodIn_app (goodIn_of _ (by decide +kernel)) ggL_law_X5_count
set_option maxRecDepth 20000 in
theorem ggL_law_X6_count : GoodIn wsL_law wsX6_count := goodIn_r _ [644, 85, 135, 406, 530, 531, 532, 5, 533, 140, 141, 142, 233, 234, 235, 577, 578, 579, 580, 645, 646, 647, 648, 693, 694, 695, 696, 697, 698, 699, 700, 701, 702, 703, 704, 705] (by decide +kernel) (by decide +kernel)
set_option maxRecDepth 20000 in
theorem gL_law_X6_count : GoodIn wsL_law (wsV RL 100 RX6 yX6_count wsX6_count) := goodIn_app (goodIn_of _ (by decide +kernel)) ggL_law_X6_count
set_option maxRecDepth 20000 in
theorem ggL_law_X5_ifStruck : GoodIn wsL_law wsX5_ifStruck := goodIn_r _ [652, 15, 155, 156, 157, 14, 158, 99, 2, 100, 159, 160, 161, 162, 42, 163, 164, 165, 166, 50, 167, 168, 169, 170, 48, 653, 654, 655, 656, 17, 516, 110, 111, 112, 40, 113, 114, 115, 116, 41, 43, 44, 45, 46, 47, 49, 51, 52, 171, 172, 173, 174, 175, 176, 177, 178, 179, 180, 181, 182, 183, 184, 185, 186, 187, 188, 189, 190, 191, 192, 193, 194, 195, 196, 197, 198, 199, 200, 201, 202, 203, 204, 205, 685, 686, 687, 688, 689, 690, 691, 692, 706, 707, 708, 709, 710, 711, 712, 713, 714, 715, 716, 717, 718] (by decide +kernel) (by decide +kernel)
set_option maxRecDepth 20000 in
theorem gL_law_X5_ifStruck : GoodIn wsL_law (wsV RL 101 RX5 yX5_ifStruck wsX5_ifStruck) := goodIn_app (goodIn_of _ (by decide +kernel)) ggL_law_X5_ifStruck
set_option maxRecDepth 20000 in
theorem ggL_law_X6_ifStruck : GoodIn wsL_law wsX6_ifStruck := goodIn_r _ [660, 210, 211, 212, 5, 213, 128, 129, 130, 214, 215, 216, 217, 85, 218, 219, 220, 221, 140, 141, 142, 136, 137, 138, 139, 222, 223, 224, 225, 226, 227, 228, 229, 230, 231, 232, 233, 234, 235, 693, 694, 695, 696, 697, 698, 699, 700, 701, 702, 703, 704, 705] (by decide +kernel) (by decide +kernel)
set_option maxRecDepth 20000 in
theorem gL_law_X6_ifStruck : GoodIn wsL_law (wsV RL 104 RX6 yX6_ifStruck wsX6_ifStruck) := goodIn_app (goodIn_of _ (by decide +kernel)) ggL_law_X6_ifStruck
set_option maxRecDepth 20000 in
theorem ggL_law_X5_leastSwing : GoodIn wsL_law wsX5_leastSwing := goodIn_r _ [664, 15, 155, 156, 157, 14, 158, 99, 2, 100, 159, 160, 161, 162, 42, 163, 164, 165, 166, 50, 167, 168, 169, 170, 48, 653, 654, 655, 656, 17, 516, 110, 111, 112, 40, 113, 114, 115, 116, 41, 43, 44, 45, 46, 47, 49, 51, 52, 171, 172, 173, 174, 175, 176, 177, 178, 179, 180, 181, 182, 183, 184, 185, 186, 187, 188, 189, 190, 191, 192, 193, 194, 195, 196, 197, 198, 199, 200, 201, 202, 203, 204, 205, 685, 686, 687, 688, 689, 690, 691, 692, 706, 707, 708, 709, 710, 711, 712, 713, 714, 715, 716, 717, 718] (by decide +kernel) (by decide +kernel)
set_option maxRecDepth 20000 in
theorem gL_law_X5_leastSwing : GoodIn wsL_law (wsV RL 105 RX5 yX5_leastSwing wsX5_leastSwing) := goodIn_app (goodIn_of _ (by decide +kernel)) ggL_law_X5_leastSwing
set_option maxRecDepth 20000 in
theorem ggL_law_X6_leastSwing : GoodIn wsL_law wsX6_leastSwing := goodIn_r _ [668, 210, 211, 212, 5, 213, 128, 129, 130, 214, 215, 216, 217, 85, 218, 219, 220, 221, 140, 141, 142, 136, 137, 138, 139, 222, 223, 224, 225, 226, 227, 228, 229, 230, 231, 232, 233, 234, 235, 693, 694, 695, 696, 697, 698, 699, 700, 701, 702, 703, 704, 705] (by decide +kernel) (by decide +kernel)
set_option maxRecDepth 20000 in
theorem gL_law_X6_leastSwing : GoodIn wsL_law (wsV RL 108 RX6 yX6_leastSwing wsX6_leastSwing) := goodIn_app (goodIn_of _ (by decide +kernel)) ggL_law_X6_leastSwing
set_option maxRecDepth 20000 in
theorem ggL_law_X5_winner : GoodIn wsL_law wsX5_winner := goodIn_r _ [672, 15, 17, 29, 290, 314, 315, 316, 14, 317, 318, 99, 2, 100, 159, 160, 161, 162, 42, 163, 164, 165, 166, 50, 167, 168, 169, 170, 48, 516, 110, 111, 112, 40, 113, 114, 115, 116, 41, 43, 44, 45, 46, 47, 49, 51, 52, 319, 320, 321, 28, 322, 75, 323, 324, 325, 326, 175, 176, 177, 178, 327, 328, 329, 330, 331, 332, 333, 334, 335, 336, 337, 338, 339, 172, 173, 174, 179, 180, 181, 182, 183, 184, 185, 186, 187, 188, 189, 190, 191, 192, 193, 194, 195, 196, 197, 198, 199, 200, 201, 202, 203, 204, 205, 685, 686, 687, 688, 689, 690, 691, 692, 706, 707, 708, 709, 710, 711, 712, 713, 714, 715, 716, 717, 718, 728] (by decide +kernel) (by decide +kernel)
set_option maxRecDepth 20000 in
theorem gL_law_X5_winner : GoodIn wsL_law (wsV RL 109 RX5 yX5_winner wsX5_winner) := goodIn_app (goodIn_of _ (by decide +kernel)) ggL_law_X5_winner
set_option maxRecDepth 20000 in
theorem ggL_law_X6_winner : GoodIn wsL_law wsX6_winner := goodIn_r _ [676, 344, 85, 345, 346, 347, 5, 348, 349, 128, 129, 130, 214, 215, 216, 217, 218, 219, 220, 221, 140, 141, 142, 136, 137, 138, 139, 350, 351, 352, 353, 226, 227, 228, 354, 355, 356, 357, 358, 222, 223, 224, 225, 229, 230, 231, 232, 233, 234, 235, 693, 694, 695, 696, 697, 698, 699, 700, 701, 702, 703, 704, 705] (by decide +kernel) (by decide +kernel)
set_option maxRecDepth 20000 in
theorem gL_law_X6_winner : GoodIn wsL_law (wsV RL 112 RX6 yX6_winner wsX6_winner) := goodIn_app (goodIn_of _ (by decide +kernel)) ggL_law_X6_winner
set_option maxRecDepth 20000 in
theorem ggL_law_X5_share : GoodIn wsL_law wsX5_share := goodIn_r _ [680, 15, 568, 569, 570, 14, 571, 50, 46, 521, 522, 523, 524, 42, 95, 96, 2, 97, 98, 99, 100, 685, 686, 687, 688, 689, 690, 691, 692, 706, 707, 708, 709, 710, 711, 712, 713, 714, 715, 716, 717, 718] (by decide +kernel) (by decide +kernel)
set_option maxRecDepth 20000 in
theorem gL_law_X5_share : GoodIn wsL_law (wsV RL 113 RX5 yX5_share wsX5_share) := goodIn_app (goodIn_of _ (by decide +kernel)) ggL_law_X5_share
set_option maxRecDepth 20000 in
theorem ggL_law_X6_share : GoodIn wsL_law wsX6_share := goodIn_r _ [684, 577, 578, 579, 5, 580, 85, 140, 141, 142, 125, 126, 127, 128, 129, 130, 693, 694, 695, 696, 697, 698, 699, 700, 701, 702, 703, 704, 705] (by decide +kernel) (by decide +kernel)
set_option maxRecDepth 20000 in
theorem gL_law_X6_share : GoodIn wsL_law (wsV RL 117 RX6 yX6_share wsX6_share) := goodIn_app (goodIn_of _ (by decide +kernel)) ggL_law_X6_share
theorem dL_law_0 : decode cL_law 0 = .ok (.new 7, 3) := by decide +kernel
theorem dL_law_3 : decode cL_law 3 = .ok (.dup, 1) := by decide +kernel
theorem dL_law_4 : decode cL_law 4 = .ok (.invokespecial 9, 3) := by decide +kernel
theorem dL_law_7 : decode cL_law 7 = .ok (.astore_n 1, 1) := by decide +kernel
theorem dL_law_8 : decode cL_law 8 = .ok (.new 10, 3) := by decide +kernel
theorem dL_law_11 : decode cL_law 11 = .ok (.dup, 1) := by decide +kernel
theorem dL_law_12 : decode cL_law 12 = .ok (.invokespecial 12, 3) := by decide +kernel
theorem dL_law_15 : decode cL_law 15 = .ok (.astore_n 2, 1) := by decide +kernel
theorem dL_law_16 : decode cL_law 16 = .ok (.iconst 0, 1) := by decide +kernel
theorem dL_law_17 : decode cL_law 17 = .ok (.istore_n 3, 1) := by decide +kernel
theorem dL_law_18 : decode cL_law 18 = .ok (.iload_n 3, 1) := by decide +kernel
theorem dL_law_19 : decode cL_law 19 = .ok (.aload_n 0, 1) := by decide +kernel
theorem dL_law_20 : decode cL_law 20 = .ok (.arraylength, 1) := by decide +kernel
theorem dL_law_21 : decode cL_law 21 = .ok (.iconst 4, 1) := by decide +kernel
theorem dL_law_22 : decode cL_law 22 = .ok (.isub, 1) := by decide +kernel
theorem dL_law_23 : decode cL_law 23 = .ok (.if_icmp .gt 826, 3) := by decide +kernel
theorem dL_law_26 : decode cL_law 26 = .ok (.aload_n 0, 1) := by decide +kernel
theorem dL_law_27 : decode cL_law 27 = .ok (.iload_n 3, 1) := by decide +kernel
theorem dL_law_28 : decode cL_law 28 = .ok (.iaload, 1) := by decide +kernel
theorem dL_law_29 : decode cL_law 29 = .ok (.bipush 31, 2) := by decide +kernel
theorem dL_law_31 : decode cL_law 31 = .ok (.iand, 1) := by decide +kernel
theorem dL_law_32 : decode cL_law 32 = .ok (.tableswitch 811 0 24 #[116, 149, 182, 225, 248, 271, 304, 337, 380, 403, 426, 439, 452, 465, 478, 491, 504, 537, 570, 593, 616, 639, 682, 715, 758], 116) := by decide +kernel
theorem dL_law_148 : decode cL_law 148 = .ok (.aload_n 1, 1) := by decide +kernel
theorem dL_law_149 : decode cL_law 149 = .ok (.aload_n 0, 1) := by decide +kernel
theorem dL_law_150 : decode cL_law 150 = .ok (.iload_n 3, 1) := by decide +kernel
theorem dL_law_151 : decode cL_law 151 = .ok (.iconst 1, 1) := by decide +kernel
theorem dL_law_152 : decode cL_law 152 = .ok (.iadd, 1) := by decide +kernel
theorem dL_law_153 : decode cL_law 153 = .ok (.iaload, 1) := by decide +kernel
theorem dL_law_154 : decode cL_law 154 = .ok (.aload_n 0, 1) := by decide +kernel
theorem dL_law_155 : decode cL_law 155 = .ok (.iload_n 3, 1) := by decide +kernel
theorem dL_law_156 : decode cL_law 156 = .ok (.iconst 2, 1) := by decide +kernel
theorem dL_law_157 : decode cL_law 157 = .ok (.iadd, 1) := by decide +kernel
theorem dL_law_158 : decode cL_law 158 = .ok (.iaload, 1) := by decide +kernel
theorem dL_law_159 : decode cL_law 159 = .ok (.invokevirtual 13, 3) := by decide +kernel
theorem dL_law_162 : decode cL_law 162 = .ok (.aload_n 2, 1) := by decide +kernel
theorem dL_law_163 : decode cL_law 163 = .ok (.aload_n 0, 1) := by decide +kernel
theorem dL_law_164 : decode cL_law 164 = .ok (.iload_n 3, 1) := by decide +kernel
theorem dL_law_165 : decode cL_law 165 = .ok (.iconst 1, 1) := by decide +kernel
theorem dL_law_166 : decode cL_law 166 = .ok (.iadd, 1) := by decide +kernel
theorem dL_law_167 : decode cL_law 167 = .ok (.iaload, 1) := by decide +kernel
theorem dL_law_168 : decode cL_law 168 = .ok (.aload_n 0, 1) := by decide +kernel
theorem dL_law_169 : decode cL_law 169 = .ok (.iload_n 3, 1) := by decide +kernel
theorem dL_law_170 : decode cL_law 170 = .ok (.iconst 2, 1) := by decide +kernel
theorem dL_law_171 : decode cL_law 171 = .ok (.iadd, 1) := by decide +kernel
theorem dL_law_172 : decode cL_law 172 = .ok (.iaload, 1) := by decide +kernel
theorem dL_law_173 : decode cL_law 173 = .ok (.invokevirtual 17, 3) := by decide +kernel
theorem dL_law_176 : decode cL_law 176 = .ok (.if_icmp .eq 667, 3) := by decide +kernel
theorem dL_law_179 : decode cL_law 179 = .ok (.iconst 0, 1) := by decide +kernel
theorem dL_law_180 : decode cL_law 180 = .ok (.ireturn, 1) := by decide +kernel
theorem dL_law_181 : decode cL_law 181 = .ok (.aload_n 1, 1) := by decide +kernel
theorem dL_law_182 : decode cL_law 182 = .ok (.aload_n 0, 1) := by decide +kernel
theorem dL_law_183 : decode cL_law 183 = .ok (.iload_n 3, 1) := by decide +kernel
theorem dL_law_184 : decode cL_law 184 = .ok (.iconst 1, 1) := by decide +kernel
theorem dL_law_185 : decode cL_law 185 = .ok (.iadd, 1) := by decide +kernel
theorem dL_law_186 : decode cL_law 186 = .ok (.iaload, 1) := by decide +kernel
theorem dL_law_187 : decode cL_law 187 = .ok (.aload_n 0, 1) := by decide +kernel
theorem dL_law_188 : decode cL_law 188 = .ok (.iload_n 3, 1) := by decide +kernel
theorem dL_law_189 : decode cL_law 189 = .ok (.iconst 2, 1) := by decide +kernel
theorem dL_law_190 : decode cL_law 190 = .ok (.iadd, 1) := by decide +kernel
theorem dL_law_191 : decode cL_law 191 = .ok (.iaload, 1) := by decide +kernel
theorem dL_law_192 : decode cL_law 192 = .ok (.invokevirtual 18, 3) := by decide +kernel
theorem dL_law_195 : decode cL_law 195 = .ok (.aload_n 2, 1) := by decide +kernel
theorem dL_law_196 : decode cL_law 196 = .ok (.aload_n 0, 1) := by decide +kernel
theorem dL_law_197 : decode cL_law 197 = .ok (.iload_n 3, 1) := by decide +kernel
theorem dL_law_198 : decode cL_law 198 = .ok (.iconst 1, 1) := by decide +kernel
theorem dL_law_199 : decode cL_law 199 = .ok (.iadd, 1) := by decide +kernel
theorem dL_law_200 : decode cL_law 200 = .ok (.iaload, 1) := by decide +kernel
theorem dL_law_201 : decode cL_law 201 = .ok (.aload_n 0, 1) := by decide +kernel
theorem dL_law_202 : decode cL_law 202 = .ok (.iload_n 3, 1) := by decide +kernel
theorem dL_law_203 : decode cL_law 203 = .ok (.iconst 2, 1) := by decide +kernel
theorem dL_law_204 : decode cL_law 204 = .ok (.iadd, 1) := by decide +kernel
theorem dL_law_205 : decode cL_law 205 = .ok (.iaload, 1) := by decide +kernel
theorem dL_law_206 : decode cL_law 206 = .ok (.invokevirtual 21, 3) := by decide +kernel
theorem dL_law_209 : decode cL_law 209 = .ok (.if_icmp .eq 634, 3) := by decide +kernel
theorem dL_law_212 : decode cL_law 212 = .ok (.iconst 0, 1) := by decide +kernel
theorem dL_law_213 : decode cL_law 213 = .ok (.ireturn, 1) := by decide +kernel
theorem dL_law_214 : decode cL_law 214 = .ok (.aload_n 1, 1) := by decide +kernel
theorem dL_law_215 : decode cL_law 215 = .ok (.aload_n 0, 1) := by decide +kernel
theorem dL_law_216 : decode cL_law 216 = .ok (.iload_n 3, 1) := by decide +kernel
theorem dL_law_217 : decode cL_law 217 = .ok (.iconst 1, 1) := by decide +kernel
theorem dL_law_218 : decode cL_law 218 = .ok (.iadd, 1) := by decide +kernel
theorem dL_law_219 : decode cL_law 219 = .ok (.iaload, 1) := by decide +kernel
theorem dL_law_220 : decode cL_law 220 = .ok (.aload_n 0, 1) := by decide +kernel
theorem dL_law_221 : decode cL_law 221 = .ok (.iload_n 3, 1) := by decide +kernel
theorem dL_law_222 : decode cL_law 222 = .ok (.iconst 2, 1) := by decide +kernel
theorem dL_law_223 : decode cL_law 223 = .ok (.iadd, 1) := by decide +kernel
theorem dL_law_224 : decode cL_law 224 = .ok (.iaload, 1) := by decide +kernel
theorem dL_law_225 : decode cL_law 225 = .ok (.aload_n 0, 1) := by decide +kernel
theorem dL_law_226 : decode cL_law 226 = .ok (.iload_n 3, 1) := by decide +kernel
theorem dL_law_227 : decode cL_law 227 = .ok (.iconst 3, 1) := by decide +kernel
theorem dL_law_228 : decode cL_law 228 = .ok (.iadd, 1) := by decide +kernel
theorem dL_law_229 : decode cL_law 229 = .ok (.iaload, 1) := by decide +kernel
theorem dL_law_230 : decode cL_law 230 = .ok (.invokevirtual 22, 3) := by decide +kernel
theorem dL_law_233 : decode cL_law 233 = .ok (.aload_n 2, 1) := by decide +kernel
theorem dL_law_234 : decode cL_law 234 = .ok (.aload_n 0, 1) := by decide +kernel
theorem dL_law_235 : decode cL_law 235 = .ok (.iload_n 3, 1) := by decide +kernel
theorem dL_law_236 : decode cL_law 236 = .ok (.iconst 1, 1) := by decide +kernel
theorem dL_law_237 : decode cL_law 237 = .ok (.iadd, 1) := by decide +kernel
theorem dL_law_238 : decode cL_law 238 = .ok (.iaload, 1) := by decide +kernel
theorem dL_law_239 : decode cL_law 239 = .ok (.aload_n 0, 1) := by decide +kernel
theorem dL_law_240 : decode cL_law 240 = .ok (.iload_n 3, 1) := by decide +kernel
theorem dL_law_241 : decode cL_law 241 = .ok (.iconst 2, 1) := by decide +kernel
theorem dL_law_242 : decode cL_law 242 = .ok (.iadd, 1) := by decide +kernel
theorem dL_law_243 : decode cL_law 243 = .ok (.iaload, 1) := by decide +kernel
theorem dL_law_244 : decode cL_law 244 = .ok (.aload_n 0, 1) := by decide +kernel
theorem dL_law_245 : decode cL_law 245 = .ok (.iload_n 3, 1) := by decide +kernel
theorem dL_law_246 : decode cL_law 246 = .ok (.iconst 3, 1) := by decide +kernel
theorem dL_law_247 : decode cL_law 247 = .ok (.iadd, 1) := by decide +kernel
theorem dL_law_248 : decode cL_law 248 = .ok (.iaload, 1) := by decide +kernel
theorem dL_law_249 : decode cL_law 249 = .ok (.invokevirtual 26, 3) := by decide +kernel
theorem dL_law_252 : decode cL_law 252 = .ok (.if_icmp .eq 591, 3) := by decide +kernel
theorem dL_law_255 : decode cL_law 255 = .ok (.iconst 0, 1) := by decide +kernel
theorem dL_law_256 : decode cL_law 256 = .ok (.ireturn, 1) := by decide +kernel
theorem dL_law_257 : decode cL_law 257 = .ok (.aload_n 1, 1) := by decide +kernel
theorem dL_law_258 : decode cL_law 258 = .ok (.aload_n 0, 1) := by decide +kernel
theorem dL_law_259 : decode cL_law 259 = .ok (.iload_n 3, 1) := by decide +kernel
theorem dL_law_260 : decode cL_law 260 = .ok (.iconst 1, 1) := by decide +kernel
theorem dL_law_261 : decode cL_law 261 = .ok (.iadd, 1) := by decide +kernel
theorem dL_law_262 : decode cL_law 262 = .ok (.iaload, 1) := by decide +kernel
theorem dL_law_263 : decode cL_law 263 = .ok (.invokevirtual 27, 3) := by decide +kernel
theorem dL_law_266 : decode cL_law 266 = .ok (.aload_n 2, 1) := by decide +kernel
theorem dL_law_267 : decode cL_law 267 = .ok (.aload_n 0, 1) := by decide +kernel
theorem dL_law_268 : decode cL_law 268 = .ok (.iload_n 3, 1) := by decide +kernel
theorem dL_law_269 : decode cL_law 269 = .ok (.iconst 1, 1) := by decide +kernel
theorem dL_law_270 : decode cL_law 270 = .ok (.iadd, 1) := by decide +kernel
theorem dL_law_271 : decode cL_law 271 = .ok (.iaload, 1) := by decide +kernel
theorem dL_law_272 : decode cL_law 272 = .ok (.invokevirtual 31, 3) := by decide +kernel
theorem dL_law_275 : decode cL_law 275 = .ok (.if_icmp .eq 568, 3) := by decide +kernel
theorem dL_law_278 : decode cL_law 278 = .ok (.iconst 0, 1) := by decide +kernel
theorem dL_law_279 : decode cL_law 279 = .ok (.ireturn, 1) := by decide +kernel
theorem dL_law_280 : decode cL_law 280 = .ok (.aload_n 1, 1) := by decide +kernel
theorem dL_law_281 : decode cL_law 281 = .ok (.aload_n 0, 1) := by decide +kernel
theorem dL_law_282 : decode cL_law 282 = .ok (.iload_n 3, 1) := by decide +kernel
theorem dL_law_283 : decode cL_law 283 = .ok (.iconst 1, 1) := by decide +kernel
theorem dL_law_284 : decode cL_law 284 = .ok (.iadd, 1) := by decide +kernel
theorem dL_law_285 : decode cL_law 285 = .ok (.iaload, 1) := by decide +kernel
theorem dL_law_286 : decode cL_law 286 = .ok (.invokevirtual 32, 3) := by decide +kernel
theorem dL_law_289 : decode cL_law 289 = .ok (.aload_n 2, 1) := by decide +kernel
theorem dL_law_290 : decode cL_law 290 = .ok (.aload_n 0, 1) := by decide +kernel
theorem dL_law_291 : decode cL_law 291 = .ok (.iload_n 3, 1) := by decide +kernel
theorem dL_law_292 : decode cL_law 292 = .ok (.iconst 1, 1) := by decide +kernel
theorem dL_law_293 : decode cL_law 293 = .ok (.iadd, 1) := by decide +kernel
theorem dL_law_294 : decode cL_law 294 = .ok (.iaload, 1) := by decide +kernel
theorem dL_law_295 : decode cL_law 295 = .ok (.invokevirtual 35, 3) := by decide +kernel
theorem dL_law_298 : decode cL_law 298 = .ok (.if_icmp .eq 545, 3) := by decide +kernel
theorem dL_law_301 : decode cL_law 301 = .ok (.iconst 0, 1) := by decide +kernel
theorem dL_law_302 : decode cL_law 302 = .ok (.ireturn, 1) := by decide +kernel
theorem dL_law_303 : decode cL_law 303 = .ok (.aload_n 1, 1) := by decide +kernel
theorem dL_law_304 : decode cL_law 304 = .ok (.aload_n 0, 1) := by decide +kernel
theorem dL_law_305 : decode cL_law 305 = .ok (.iload_n 3, 1) := by decide +kernel
theorem dL_law_306 : decode cL_law 306 = .ok (.iconst 1, 1) := by decide +kernel
theorem dL_law_307 : decode cL_law 307 = .ok (.iadd, 1) := by decide +kernel
theorem dL_law_308 : decode cL_law 308 = .ok (.iaload, 1) := by decide +kernel
theorem dL_law_309 : decode cL_law 309 = .ok (.aload_n 0, 1) := by decide +kernel
theorem dL_law_310 : decode cL_law 310 = .ok (.iload_n 3, 1) := by decide +kernel
theorem dL_law_311 : decode cL_law 311 = .ok (.iconst 2, 1) := by decide +kernel
theorem dL_law_312 : decode cL_law 312 = .ok (.iadd, 1) := by decide +kernel
theorem dL_law_313 : decode cL_law 313 = .ok (.iaload, 1) := by decide +kernel
theorem dL_law_314 : decode cL_law 314 = .ok (.invokevirtual 36, 3) := by decide +kernel
theorem dL_law_317 : decode cL_law 317 = .ok (.aload_n 2, 1) := by decide +kernel
theorem dL_law_318 : decode cL_law 318 = .ok (.aload_n 0, 1) := by decide +kernel
theorem dL_law_319 : decode cL_law 319 = .ok (.iload_n 3, 1) := by decide +kernel
theorem dL_law_320 : decode cL_law 320 = .ok (.iconst 1, 1) := by decide +kernel
theorem dL_law_321 : decode cL_law 321 = .ok (.iadd, 1) := by decide +kernel
theorem dL_law_322 : decode cL_law 322 = .ok (.iaload, 1) := by decide +kernel
theorem dL_law_323 : decode cL_law 323 = .ok (.aload_n 0, 1) := by decide +kernel
theorem dL_law_324 : decode cL_law 324 = .ok (.iload_n 3, 1) := by decide +kernel
theorem dL_law_325 : decode cL_law 325 = .ok (.iconst 2, 1) := by decide +kernel
theorem dL_law_326 : decode cL_law 326 = .ok (.iadd, 1) := by decide +kernel
theorem dL_law_327 : decode cL_law 327 = .ok (.iaload, 1) := by decide +kernel
theorem dL_law_328 : decode cL_law 328 = .ok (.invokevirtual 39, 3) := by decide +kernel
theorem dL_law_331 : decode cL_law 331 = .ok (.if_icmp .eq 512, 3) := by decide +kernel
theorem dL_law_334 : decode cL_law 334 = .ok (.iconst 0, 1) := by decide +kernel
theorem dL_law_335 : decode cL_law 335 = .ok (.ireturn, 1) := by decide +kernel
theorem dL_law_336 : decode cL_law 336 = .ok (.aload_n 1, 1) := by decide +kernel
theorem dL_law_337 : decode cL_law 337 = .ok (.aload_n 0, 1) := by decide +kernel
theorem dL_law_338 : decode cL_law 338 = .ok (.iload_n 3, 1) := by decide +kernel
theorem dL_law_339 : decode cL_law 339 = .ok (.iconst 1, 1) := by decide +kernel
theorem dL_law_340 : decode cL_law 340 = .ok (.iadd, 1) := by decide +kernel
theorem dL_law_341 : decode cL_law 341 = .ok (.iaload, 1) := by decide +kernel
theorem dL_law_342 : decode cL_law 342 = .ok (.aload_n 0, 1) := by decide +kernel
theorem dL_law_343 : decode cL_law 343 = .ok (.iload_n 3, 1) := by decide +kernel
theorem dL_law_344 : decode cL_law 344 = .ok (.iconst 2, 1) := by decide +kernel
theorem dL_law_345 : decode cL_law 345 = .ok (.iadd, 1) := by decide +kernel
theorem dL_law_346 : decode cL_law 346 = .ok (.iaload, 1) := by decide +kernel
theorem dL_law_347 : decode cL_law 347 = .ok (.invokevirtual 40, 3) := by decide +kernel
theorem dL_law_350 : decode cL_law 350 = .ok (.aload_n 2, 1) := by decide +kernel
theorem dL_law_351 : decode cL_law 351 = .ok (.aload_n 0, 1) := by decide +kernel
theorem dL_law_352 : decode cL_law 352 = .ok (.iload_n 3, 1) := by decide +kernel
theorem dL_law_353 : decode cL_law 353 = .ok (.iconst 1, 1) := by decide +kernel
theorem dL_law_354 : decode cL_law 354 = .ok (.iadd, 1) := by decide +kernel
theorem dL_law_355 : decode cL_law 355 = .ok (.iaload, 1) := by decide +kernel
theorem dL_law_356 : decode cL_law 356 = .ok (.aload_n 0, 1) := by decide +kernel
theorem dL_law_357 : decode cL_law 357 = .ok (.iload_n 3, 1) := by decide +kernel
theorem dL_law_358 : decode cL_law 358 = .ok (.iconst 2, 1) := by decide +kernel
theorem dL_law_359 : decode cL_law 359 = .ok (.iadd, 1) := by decide +kernel
theorem dL_law_360 : decode cL_law 360 = .ok (.iaload, 1) := by decide +kernel
theorem dL_law_361 : decode cL_law 361 = .ok (.invokevirtual 43, 3) := by decide +kernel
theorem dL_law_364 : decode cL_law 364 = .ok (.if_icmp .eq 479, 3) := by decide +kernel
theorem dL_law_367 : decode cL_law 367 = .ok (.iconst 0, 1) := by decide +kernel
theorem dL_law_368 : decode cL_law 368 = .ok (.ireturn, 1) := by decide +kernel
theorem dL_law_369 : decode cL_law 369 = .ok (.aload_n 1, 1) := by decide +kernel
theorem dL_law_370 : decode cL_law 370 = .ok (.aload_n 0, 1) := by decide +kernel
theorem dL_law_371 : decode cL_law 371 = .ok (.iload_n 3, 1) := by decide +kernel
theorem dL_law_372 : decode cL_law 372 = .ok (.iconst 1, 1) := by decide +kernel
theorem dL_law_373 : decode cL_law 373 = .ok (.iadd, 1) := by decide +kernel
theorem dL_law_374 : decode cL_law 374 = .ok (.iaload, 1) := by decide +kernel
theorem dL_law_375 : decode cL_law 375 = .ok (.aload_n 0, 1) := by decide +kernel
theorem dL_law_376 : decode cL_law 376 = .ok (.iload_n 3, 1) := by decide +kernel
theorem dL_law_377 : decode cL_law 377 = .ok (.iconst 2, 1) := by decide +kernel
theorem dL_law_378 : decode cL_law 378 = .ok (.iadd, 1) := by decide +kernel
theorem dL_law_379 : decode cL_law 379 = .ok (.iaload, 1) := by decide +kernel
theorem dL_law_380 : decode cL_law 380 = .ok (.aload_n 0, 1) := by decide +kernel
theorem dL_law_381 : decode cL_law 381 = .ok (.iload_n 3, 1) := by decide +kernel
theorem dL_law_382 : decode cL_law 382 = .ok (.iconst 3, 1) := by decide +kernel
theorem dL_law_383 : decode cL_law 383 = .ok (.iadd, 1) := by decide +kernel
theorem dL_law_384 : decode cL_law 384 = .ok (.iaload, 1) := by decide +kernel
theorem dL_law_385 : decode cL_law 385 = .ok (.invokevirtual 44, 3) := by decide +kernel
theorem dL_law_388 : decode cL_law 388 = .ok (.aload_n 2, 1) := by decide +kernel
theorem dL_law_389 : decode cL_law 389 = .ok (.aload_n 0, 1) := by decide +kernel
theorem dL_law_390 : decode cL_law 390 = .ok (.iload_n 3, 1) := by decide +kernel
theorem dL_law_391 : decode cL_law 391 = .ok (.iconst 1, 1) := by decide +kernel
theorem dL_law_392 : decode cL_law 392 = .ok (.iadd, 1) := by decide +kernel
theorem dL_law_393 : decode cL_law 393 = .ok (.iaload, 1) := by decide +kernel
theorem dL_law_394 : decode cL_law 394 = .ok (.aload_n 0, 1) := by decide +kernel
theorem dL_law_395 : decode cL_law 395 = .ok (.iload_n 3, 1) := by decide +kernel
theorem dL_law_396 : decode cL_law 396 = .ok (.iconst 2, 1) := by decide +kernel
theorem dL_law_397 : decode cL_law 397 = .ok (.iadd, 1) := by decide +kernel
theorem dL_law_398 : decode cL_law 398 = .ok (.iaload, 1) := by decide +kernel
theorem dL_law_399 : decode cL_law 399 = .ok (.aload_n 0, 1) := by decide +kernel
theorem dL_law_400 : decode cL_law 400 = .ok (.iload_n 3, 1) := by decide +kernel
theorem dL_law_401 : decode cL_law 401 = .ok (.iconst 3, 1) := by decide +kernel
theorem dL_law_402 : decode cL_law 402 = .ok (.iadd, 1) := by decide +kernel
theorem dL_law_403 : decode cL_law 403 = .ok (.iaload, 1) := by decide +kernel
theorem dL_law_404 : decode cL_law 404 = .ok (.invokevirtual 47, 3) := by decide +kernel
theorem dL_law_407 : decode cL_law 407 = .ok (.if_icmp .eq 436, 3) := by decide +kernel
theorem dL_law_410 : decode cL_law 410 = .ok (.iconst 0, 1) := by decide +kernel
theorem dL_law_411 : decode cL_law 411 = .ok (.ireturn, 1) := by decide +kernel
theorem dL_law_412 : decode cL_law 412 = .ok (.aload_n 1, 1) := by decide +kernel
theorem dL_law_413 : decode cL_law 413 = .ok (.aload_n 0, 1) := by decide +kernel
theorem dL_law_414 : decode cL_law 414 = .ok (.iload_n 3, 1) := by decide +kernel
theorem dL_law_415 : decode cL_law 415 = .ok (.iconst 1, 1) := by decide +kernel
theorem dL_law_416 : decode cL_law 416 = .ok (.iadd, 1) := by decide +kernel
theorem dL_law_417 : decode cL_law 417 = .ok (.iaload, 1) := by decide +kernel
theorem dL_law_418 : decode cL_law 418 = .ok (.invokevirtual 48, 3) := by decide +kernel
theorem dL_law_421 : decode cL_law 421 = .ok (.aload_n 2, 1) := by decide +kernel
theorem dL_law_422 : decode cL_law 422 = .ok (.aload_n 0, 1) := by decide +kernel
theorem dL_law_423 : decode cL_law 423 = .ok (.iload_n 3, 1) := by decide +kernel
theorem dL_law_424 : decode cL_law 424 = .ok (.iconst 1, 1) := by decide +kernel
theorem dL_law_425 : decode cL_law 425 = .ok (.iadd, 1) := by decide +kernel
theorem dL_law_426 : decode cL_law 426 = .ok (.iaload, 1) := by decide +kernel
theorem dL_law_427 : decode cL_law 427 = .ok (.invokevirtual 51, 3) := by decide +kernel
theorem dL_law_430 : decode cL_law 430 = .ok (.if_icmp .eq 413, 3) := by decide +kernel
theorem dL_law_433 : decode cL_law 433 = .ok (.iconst 0, 1) := by decide +kernel
theorem dL_law_434 : decode cL_law 434 = .ok (.ireturn, 1) := by decide +kernel
theorem dL_law_435 : decode cL_law 435 = .ok (.aload_n 1, 1) := by decide +kernel
theorem dL_law_436 : decode cL_law 436 = .ok (.aload_n 0, 1) := by decide +kernel
theorem dL_law_437 : decode cL_law 437 = .ok (.iload_n 3, 1) := by decide +kernel
theorem dL_law_438 : decode cL_law 438 = .ok (.iconst 1, 1) := by decide +kernel
theorem dL_law_439 : decode cL_law 439 = .ok (.iadd, 1) := by decide +kernel
theorem dL_law_440 : decode cL_law 440 = .ok (.iaload, 1) := by decide +kernel
theorem dL_law_441 : decode cL_law 441 = .ok (.invokevirtual 52, 3) := by decide +kernel
theorem dL_law_444 : decode cL_law 444 = .ok (.aload_n 2, 1) := by decide +kernel
theorem dL_law_445 : decode cL_law 445 = .ok (.aload_n 0, 1) := by decide +kernel
theorem dL_law_446 : decode cL_law 446 = .ok (.iload_n 3, 1) := by decide +kernel
theorem dL_law_447 : decode cL_law 447 = .ok (.iconst 1, 1) := by decide +kernel
theorem dL_law_448 : decode cL_law 448 = .ok (.iadd, 1) := by decide +kernel
theorem dL_law_449 : decode cL_law 449 = .ok (.iaload, 1) := by decide +kernel
theorem dL_law_450 : decode cL_law 450 = .ok (.invokevirtual 55, 3) := by decide +kernel
theorem dL_law_453 : decode cL_law 453 = .ok (.if_icmp .eq 390, 3) := by decide +kernel
theorem dL_law_456 : decode cL_law 456 = .ok (.iconst 0, 1) := by decide +kernel
theorem dL_law_457 : decode cL_law 457 = .ok (.ireturn, 1) := by decide +kernel
theorem dL_law_458 : decode cL_law 458 = .ok (.aload_n 1, 1) := by decide +kernel
theorem dL_law_459 : decode cL_law 459 = .ok (.invokevirtual 56, 3) := by decide +kernel
theorem dL_law_462 : decode cL_law 462 = .ok (.aload_n 2, 1) := by decide +kernel
theorem dL_law_463 : decode cL_law 463 = .ok (.invokevirtual 60, 3) := by decide +kernel
theorem dL_law_466 : decode cL_law 466 = .ok (.if_icmp .eq 377, 3) := by decide +kernel
theorem dL_law_469 : decode cL_law 469 = .ok (.iconst 0, 1) := by decide +kernel
theorem dL_law_470 : decode cL_law 470 = .ok (.ireturn, 1) := by decide +kernel
theorem dL_law_471 : decode cL_law 471 = .ok (.aload_n 1, 1) := by decide +kernel
theorem dL_law_472 : decode cL_law 472 = .ok (.invokevirtual 61, 3) := by decide +kernel
theorem dL_law_475 : decode cL_law 475 = .ok (.aload_n 2, 1) := by decide +kernel
theorem dL_law_476 : decode cL_law 476 = .ok (.invokevirtual 64, 3) := by decide +kernel
theorem dL_law_479 : decode cL_law 479 = .ok (.if_icmp .eq 364, 3) := by decide +kernel
theorem dL_law_482 : decode cL_law 482 = .ok (.iconst 0, 1) := by decide +kernel
theorem dL_law_483 : decode cL_law 483 = .ok (.ireturn, 1) := by decide +kernel
theorem dL_law_484 : decode cL_law 484 = .ok (.aload_n 1, 1) := by decide +kernel
theorem dL_law_485 : decode cL_law 485 = .ok (.invokevirtual 65, 3) := by decide +kernel
theorem dL_law_488 : decode cL_law 488 = .ok (.aload_n 2, 1) := by decide +kernel
theorem dL_law_489 : decode cL_law 489 = .ok (.invokevirtual 68, 3) := by decide +kernel
theorem dL_law_492 : decode cL_law 492 = .ok (.if_icmp .eq 351, 3) := by decide +kernel
theorem dL_law_495 : decode cL_law 495 = .ok (.iconst 0, 1) := by decide +kernel
theorem dL_law_496 : decode cL_law 496 = .ok (.ireturn, 1) := by decide +kernel
theorem dL_law_497 : decode cL_law 497 = .ok (.aload_n 1, 1) := by decide +kernel
theorem dL_law_498 : decode cL_law 498 = .ok (.invokevirtual 69, 3) := by decide +kernel
theorem dL_law_501 : decode cL_law 501 = .ok (.aload_n 2, 1) := by decide +kernel
theorem dL_law_502 : decode cL_law 502 = .ok (.invokevirtual 72, 3) := by decide +kernel
theorem dL_law_505 : decode cL_law 505 = .ok (.if_icmp .eq 338, 3) := by decide +kernel
theorem dL_law_508 : decode cL_law 508 = .ok (.iconst 0, 1) := by decide +kernel
theorem dL_law_509 : decode cL_law 509 = .ok (.ireturn, 1) := by decide +kernel
theorem dL_law_510 : decode cL_law 510 = .ok (.aload_n 1, 1) := by decide +kernel
theorem dL_law_511 : decode cL_law 511 = .ok (.invokevirtual 73, 3) := by decide +kernel
theorem dL_law_514 : decode cL_law 514 = .ok (.aload_n 2, 1) := by decide +kernel
theorem dL_law_515 : decode cL_law 515 = .ok (.invokevirtual 76, 3) := by decide +kernel
theorem dL_law_518 : decode cL_law 518 = .ok (.if_icmp .eq 325, 3) := by decide +kernel
theorem dL_law_521 : decode cL_law 521 = .ok (.iconst 0, 1) := by decide +kernel
theorem dL_law_522 : decode cL_law 522 = .ok (.ireturn, 1) := by decide +kernel
theorem dL_law_523 : decode cL_law 523 = .ok (.aload_n 1, 1) := by decide +kernel
theorem dL_law_524 : decode cL_law 524 = .ok (.invokevirtual 77, 3) := by decide +kernel
theorem dL_law_527 : decode cL_law 527 = .ok (.aload_n 2, 1) := by decide +kernel
theorem dL_law_528 : decode cL_law 528 = .ok (.invokevirtual 80, 3) := by decide +kernel
theorem dL_law_531 : decode cL_law 531 = .ok (.if_icmp .eq 312, 3) := by decide +kernel
theorem dL_law_534 : decode cL_law 534 = .ok (.iconst 0, 1) := by decide +kernel
theorem dL_law_535 : decode cL_law 535 = .ok (.ireturn, 1) := by decide +kernel
theorem dL_law_536 : decode cL_law 536 = .ok (.aload_n 1, 1) := by decide +kernel
theorem dL_law_537 : decode cL_law 537 = .ok (.aload_n 0, 1) := by decide +kernel
theorem dL_law_538 : decode cL_law 538 = .ok (.iload_n 3, 1) := by decide +kernel
theorem dL_law_539 : decode cL_law 539 = .ok (.iconst 1, 1) := by decide +kernel
theorem dL_law_540 : decode cL_law 540 = .ok (.iadd, 1) := by decide +kernel
theorem dL_law_541 : decode cL_law 541 = .ok (.iaload, 1) := by decide +kernel
theorem dL_law_542 : decode cL_law 542 = .ok (.aload_n 0, 1) := by decide +kernel
theorem dL_law_543 : decode cL_law 543 = .ok (.iload_n 3, 1) := by decide +kernel
theorem dL_law_544 : decode cL_law 544 = .ok (.iconst 2, 1) := by decide +kernel
theorem dL_law_545 : decode cL_law 545 = .ok (.iadd, 1) := by decide +kernel
theorem dL_law_546 : decode cL_law 546 = .ok (.iaload, 1) := by decide +kernel
theorem dL_law_547 : decode cL_law 547 = .ok (.invokevirtual 81, 3) := by decide +kernel
theorem dL_law_550 : decode cL_law 550 = .ok (.aload_n 2, 1) := by decide +kernel
theorem dL_law_551 : decode cL_law 551 = .ok (.aload_n 0, 1) := by decide +kernel
theorem dL_law_552 : decode cL_law 552 = .ok (.iload_n 3, 1) := by decide +kernel
theorem dL_law_553 : decode cL_law 553 = .ok (.iconst 1, 1) := by decide +kernel
theorem dL_law_554 : decode cL_law 554 = .ok (.iadd, 1) := by decide +kernel
theorem dL_law_555 : decode cL_law 555 = .ok (.iaload, 1) := by decide +kernel
theorem dL_law_556 : decode cL_law 556 = .ok (.aload_n 0, 1) := by decide +kernel
theorem dL_law_557 : decode cL_law 557 = .ok (.iload_n 3, 1) := by decide +kernel
theorem dL_law_558 : decode cL_law 558 = .ok (.iconst 2, 1) := by decide +kernel
theorem dL_law_559 : decode cL_law 559 = .ok (.iadd, 1) := by decide +kernel
theorem dL_law_560 : decode cL_law 560 = .ok (.iaload, 1) := by decide +kernel
theorem dL_law_561 : decode cL_law 561 = .ok (.invokevirtual 84, 3) := by decide +kernel
theorem dL_law_564 : decode cL_law 564 = .ok (.if_icmp .eq 279, 3) := by decide +kernel
theorem dL_law_567 : decode cL_law 567 = .ok (.iconst 0, 1) := by decide +kernel
theorem dL_law_568 : decode cL_law 568 = .ok (.ireturn, 1) := by decide +kernel
theorem dL_law_569 : decode cL_law 569 = .ok (.aload_n 1, 1) := by decide +kernel
theorem dL_law_570 : decode cL_law 570 = .ok (.aload_n 0, 1) := by decide +kernel
theorem dL_law_571 : decode cL_law 571 = .ok (.iload_n 3, 1) := by decide +kernel
theorem dL_law_572 : decode cL_law 572 = .ok (.iconst 1, 1) := by decide +kernel
theorem dL_law_573 : decode cL_law 573 = .ok (.iadd, 1) := by decide +kernel
theorem dL_law_574 : decode cL_law 574 = .ok (.iaload, 1) := by decide +kernel
theorem dL_law_575 : decode cL_law 575 = .ok (.aload_n 0, 1) := by decide +kernel
theorem dL_law_576 : decode cL_law 576 = .ok (.iload_n 3, 1) := by decide +kernel
theorem dL_law_577 : decode cL_law 577 = .ok (.iconst 2, 1) := by decide +kernel
theorem dL_law_578 : decode cL_law 578 = .ok (.iadd, 1) := by decide +kernel
theorem dL_law_579 : decode cL_law 579 = .ok (.iaload, 1) := by decide +kernel
theorem dL_law_580 : decode cL_law 580 = .ok (.invokevirtual 85, 3) := by decide +kernel
theorem dL_law_583 : decode cL_law 583 = .ok (.aload_n 2, 1) := by decide +kernel
theorem dL_law_584 : decode cL_law 584 = .ok (.aload_n 0, 1) := by decide +kernel
theorem dL_law_585 : decode cL_law 585 = .ok (.iload_n 3, 1) := by decide +kernel
theorem dL_law_586 : decode cL_law 586 = .ok (.iconst 1, 1) := by decide +kernel
theorem dL_law_587 : decode cL_law 587 = .ok (.iadd, 1) := by decide +kernel
theorem dL_law_588 : decode cL_law 588 = .ok (.iaload, 1) := by decide +kernel
theorem dL_law_589 : decode cL_law 589 = .ok (.aload_n 0, 1) := by decide +kernel
theorem dL_law_590 : decode cL_law 590 = .ok (.iload_n 3, 1) := by decide +kernel
theorem dL_law_591 : decode cL_law 591 = .ok (.iconst 2, 1) := by decide +kernel
theorem dL_law_592 : decode cL_law 592 = .ok (.iadd, 1) := by decide +kernel
theorem dL_law_593 : decode cL_law 593 = .ok (.iaload, 1) := by decide +kernel
theorem dL_law_594 : decode cL_law 594 = .ok (.invokevirtual 88, 3) := by decide +kernel
theorem dL_law_597 : decode cL_law 597 = .ok (.if_icmp .eq 246, 3) := by decide +kernel
theorem dL_law_600 : decode cL_law 600 = .ok (.iconst 0, 1) := by decide +kernel
theorem dL_law_601 : decode cL_law 601 = .ok (.ireturn, 1) := by decide +kernel
theorem dL_law_602 : decode cL_law 602 = .ok (.aload_n 1, 1) := by decide +kernel
theorem dL_law_603 : decode cL_law 603 = .ok (.aload_n 0, 1) := by decide +kernel
theorem dL_law_604 : decode cL_law 604 = .ok (.iload_n 3, 1) := by decide +kernel
theorem dL_law_605 : decode cL_law 605 = .ok (.iconst 1, 1) := by decide +kernel
theorem dL_law_606 : decode cL_law 606 = .ok (.iadd, 1) := by decide +kernel
theorem dL_law_607 : decode cL_law 607 = .ok (.iaload, 1) := by decide +kernel
theorem dL_law_608 : decode cL_law 608 = .ok (.invokevirtual 89, 3) := by decide +kernel
theorem dL_law_611 : decode cL_law 611 = .ok (.aload_n 2, 1) := by decide +kernel
theorem dL_law_612 : decode cL_law 612 = .ok (.aload_n 0, 1) := by decide +kernel
theorem dL_law_613 : decode cL_law 613 = .ok (.iload_n 3, 1) := by decide +kernel
theorem dL_law_614 : decode cL_law 614 = .ok (.iconst 1, 1) := by decide +kernel
theorem dL_law_615 : decode cL_law 615 = .ok (.iadd, 1) := by decide +kernel
theorem dL_law_616 : decode cL_law 616 = .ok (.iaload, 1) := by decide +kernel
theorem dL_law_617 : decode cL_law 617 = .ok (.invokevirtual 92, 3) := by decide +kernel
theorem dL_law_620 : decode cL_law 620 = .ok (.if_icmp .eq 223, 3) := by decide +kernel
theorem dL_law_623 : decode cL_law 623 = .ok (.iconst 0, 1) := by decide +kernel
theorem dL_law_624 : decode cL_law 624 = .ok (.ireturn, 1) := by decide +kernel
theorem dL_law_625 : decode cL_law 625 = .ok (.aload_n 1, 1) := by decide +kernel
theorem dL_law_626 : decode cL_law 626 = .ok (.aload_n 0, 1) := by decide +kernel
theorem dL_law_627 : decode cL_law 627 = .ok (.iload_n 3, 1) := by decide +kernel
theorem dL_law_628 : decode cL_law 628 = .ok (.iconst 1, 1) := by decide +kernel
theorem dL_law_629 : decode cL_law 629 = .ok (.iadd, 1) := by decide +kernel
theorem dL_law_630 : decode cL_law 630 = .ok (.iaload, 1) := by decide +kernel
theorem dL_law_631 : decode cL_law 631 = .ok (.invokevirtual 93, 3) := by decide +kernel
theorem dL_law_634 : decode cL_law 634 = .ok (.aload_n 2, 1) := by decide +kernel
theorem dL_law_635 : decode cL_law 635 = .ok (.aload_n 0, 1) := by decide +kernel
theorem dL_law_636 : decode cL_law 636 = .ok (.iload_n 3, 1) := by decide +kernel
theorem dL_law_637 : decode cL_law 637 = .ok (.iconst 1, 1) := by decide +kernel
theorem dL_law_638 : decode cL_law 638 = .ok (.iadd, 1) := by decide +kernel
theorem dL_law_639 : decode cL_law 639 = .ok (.iaload, 1) := by decide +kernel
theorem dL_law_640 : decode cL_law 640 = .ok (.invokevirtual 96, 3) := by decide +kernel
theorem dL_law_643 : decode cL_law 643 = .ok (.if_icmp .eq 200, 3) := by decide +kernel
theorem dL_law_646 : decode cL_law 646 = .ok (.iconst 0, 1) := by decide +kernel
theorem dL_law_647 : decode cL_law 647 = .ok (.ireturn, 1) := by decide +kernel
theorem dL_law_648 : decode cL_law 648 = .ok (.aload_n 1, 1) := by decide +kernel
theorem dL_law_649 : decode cL_law 649 = .ok (.aload_n 0, 1) := by decide +kernel
theorem dL_law_650 : decode cL_law 650 = .ok (.iload_n 3, 1) := by decide +kernel
theorem dL_law_651 : decode cL_law 651 = .ok (.iconst 1, 1) := by decide +kernel
theorem dL_law_652 : decode cL_law 652 = .ok (.iadd, 1) := by decide +kernel
theorem dL_law_653 : decode cL_law 653 = .ok (.iaload, 1) := by decide +kernel
theorem dL_law_654 : decode cL_law 654 = .ok (.invokevirtual 97, 3) := by decide +kernel
theorem dL_law_657 : decode cL_law 657 = .ok (.aload_n 2, 1) := by decide +kernel
theorem dL_law_658 : decode cL_law 658 = .ok (.aload_n 0, 1) := by decide +kernel
theorem dL_law_659 : decode cL_law 659 = .ok (.iload_n 3, 1) := by decide +kernel
theorem dL_law_660 : decode cL_law 660 = .ok (.iconst 1, 1) := by decide +kernel
theorem dL_law_661 : decode cL_law 661 = .ok (.iadd, 1) := by decide +kernel
theorem dL_law_662 : decode cL_law 662 = .ok (.iaload, 1) := by decide +kernel
theorem dL_law_663 : decode cL_law 663 = .ok (.invokevirtual 100, 3) := by decide +kernel
theorem dL_law_666 : decode cL_law 666 = .ok (.if_icmp .eq 177, 3) := by decide +kernel
theorem dL_law_669 : decode cL_law 669 = .ok (.iconst 0, 1) := by decide +kernel
theorem dL_law_670 : decode cL_law 670 = .ok (.ireturn, 1) := by decide +kernel
theorem dL_law_671 : decode cL_law 671 = .ok (.aload_n 1, 1) := by decide +kernel
theorem dL_law_672 : decode cL_law 672 = .ok (.aload_n 0, 1) := by decide +kernel
theorem dL_law_673 : decode cL_law 673 = .ok (.iload_n 3, 1) := by decide +kernel
theorem dL_law_674 : decode cL_law 674 = .ok (.iconst 1, 1) := by decide +kernel
theorem dL_law_675 : decode cL_law 675 = .ok (.iadd, 1) := by decide +kernel
theorem dL_law_676 : decode cL_law 676 = .ok (.iaload, 1) := by decide +kernel
theorem dL_law_677 : decode cL_law 677 = .ok (.aload_n 0, 1) := by decide +kernel
theorem dL_law_678 : decode cL_law 678 = .ok (.iload_n 3, 1) := by decide +kernel
theorem dL_law_679 : decode cL_law 679 = .ok (.iconst 2, 1) := by decide +kernel
theorem dL_law_680 : decode cL_law 680 = .ok (.iadd, 1) := by decide +kernel
theorem dL_law_681 : decode cL_law 681 = .ok (.iaload, 1) := by decide +kernel
theorem dL_law_682 : decode cL_law 682 = .ok (.aload_n 0, 1) := by decide +kernel
theorem dL_law_683 : decode cL_law 683 = .ok (.iload_n 3, 1) := by decide +kernel
theorem dL_law_684 : decode cL_law 684 = .ok (.iconst 3, 1) := by decide +kernel
theorem dL_law_685 : decode cL_law 685 = .ok (.iadd, 1) := by decide +kernel
theorem dL_law_686 : decode cL_law 686 = .ok (.iaload, 1) := by decide +kernel
theorem dL_law_687 : decode cL_law 687 = .ok (.invokevirtual 101, 3) := by decide +kernel
theorem dL_law_690 : decode cL_law 690 = .ok (.aload_n 2, 1) := by decide +kernel
theorem dL_law_691 : decode cL_law 691 = .ok (.aload_n 0, 1) := by decide +kernel
theorem dL_law_692 : decode cL_law 692 = .ok (.iload_n 3, 1) := by decide +kernel
theorem dL_law_693 : decode cL_law 693 = .ok (.iconst 1, 1) := by decide +kernel
theorem dL_law_694 : decode cL_law 694 = .ok (.iadd, 1) := by decide +kernel
theorem dL_law_695 : decode cL_law 695 = .ok (.iaload, 1) := by decide +kernel
theorem dL_law_696 : decode cL_law 696 = .ok (.aload_n 0, 1) := by decide +kernel
theorem dL_law_697 : decode cL_law 697 = .ok (.iload_n 3, 1) := by decide +kernel
theorem dL_law_698 : decode cL_law 698 = .ok (.iconst 2, 1) := by decide +kernel
theorem dL_law_699 : decode cL_law 699 = .ok (.iadd, 1) := by decide +kernel
theorem dL_law_700 : decode cL_law 700 = .ok (.iaload, 1) := by decide +kernel
theorem dL_law_701 : decode cL_law 701 = .ok (.aload_n 0, 1) := by decide +kernel
theorem dL_law_702 : decode cL_law 702 = .ok (.iload_n 3, 1) := by decide +kernel
theorem dL_law_703 : decode cL_law 703 = .ok (.iconst 3, 1) := by decide +kernel
theorem dL_law_704 : decode cL_law 704 = .ok (.iadd, 1) := by decide +kernel
theorem dL_law_705 : decode cL_law 705 = .ok (.iaload, 1) := by decide +kernel
theorem dL_law_706 : decode cL_law 706 = .ok (.invokevirtual 104, 3) := by decide +kernel
theorem dL_law_709 : decode cL_law 709 = .ok (.if_icmp .eq 134, 3) := by decide +kernel
theorem dL_law_712 : decode cL_law 712 = .ok (.iconst 0, 1) := by decide +kernel
theorem dL_law_713 : decode cL_law 713 = .ok (.ireturn, 1) := by decide +kernel
theorem dL_law_714 : decode cL_law 714 = .ok (.aload_n 1, 1) := by decide +kernel
theorem dL_law_715 : decode cL_law 715 = .ok (.aload_n 0, 1) := by decide +kernel
theorem dL_law_716 : decode cL_law 716 = .ok (.iload_n 3, 1) := by decide +kernel
theorem dL_law_717 : decode cL_law 717 = .ok (.iconst 1, 1) := by decide +kernel
theorem dL_law_718 : decode cL_law 718 = .ok (.iadd, 1) := by decide +kernel
theorem dL_law_719 : decode cL_law 719 = .ok (.iaload, 1) := by decide +kernel
theorem dL_law_720 : decode cL_law 720 = .ok (.aload_n 0, 1) := by decide +kernel
theorem dL_law_721 : decode cL_law 721 = .ok (.iload_n 3, 1) := by decide +kernel
theorem dL_law_722 : decode cL_law 722 = .ok (.iconst 2, 1) := by decide +kernel
theorem dL_law_723 : decode cL_law 723 = .ok (.iadd, 1) := by decide +kernel
theorem dL_law_724 : decode cL_law 724 = .ok (.iaload, 1) := by decide +kernel
theorem dL_law_725 : decode cL_law 725 = .ok (.invokevirtual 105, 3) := by decide +kernel
theorem dL_law_728 : decode cL_law 728 = .ok (.aload_n 2, 1) := by decide +kernel
theorem dL_law_729 : decode cL_law 729 = .ok (.aload_n 0, 1) := by decide +kernel
theorem dL_law_730 : decode cL_law 730 = .ok (.iload_n 3, 1) := by decide +kernel
theorem dL_law_731 : decode cL_law 731 = .ok (.iconst 1, 1) := by decide +kernel
theorem dL_law_732 : decode cL_law 732 = .ok (.iadd, 1) := by decide +kernel
theorem dL_law_733 : decode cL_law 733 = .ok (.iaload, 1) := by decide +kernel
theorem dL_law_734 : decode cL_law 734 = .ok (.aload_n 0, 1) := by decide +kernel
theorem dL_law_735 : decode cL_law 735 = .ok (.iload_n 3, 1) := by decide +kernel
theorem dL_law_736 : decode cL_law 736 = .ok (.iconst 2, 1) := by decide +kernel
theorem dL_law_737 : decode cL_law 737 = .ok (.iadd, 1) := by decide +kernel
theorem dL_law_738 : decode cL_law 738 = .ok (.iaload, 1) := by decide +kernel
theorem dL_law_739 : decode cL_law 739 = .ok (.invokevirtual 108, 3) := by decide +kernel
theorem dL_law_742 : decode cL_law 742 = .ok (.if_icmp .eq 101, 3) := by decide +kernel
theorem dL_law_745 : decode cL_law 745 = .ok (.iconst 0, 1) := by decide +kernel
theorem dL_law_746 : decode cL_law 746 = .ok (.ireturn, 1) := by decide +kernel
theorem dL_law_747 : decode cL_law 747 = .ok (.aload_n 1, 1) := by decide +kernel
theorem dL_law_748 : decode cL_law 748 = .ok (.aload_n 0, 1) := by decide +kernel
theorem dL_law_749 : decode cL_law 749 = .ok (.iload_n 3, 1) := by decide +kernel
theorem dL_law_750 : decode cL_law 750 = .ok (.iconst 1, 1) := by decide +kernel
theorem dL_law_751 : decode cL_law 751 = .ok (.iadd, 1) := by decide +kernel
theorem dL_law_752 : decode cL_law 752 = .ok (.iaload, 1) := by decide +kernel
theorem dL_law_753 : decode cL_law 753 = .ok (.aload_n 0, 1) := by decide +kernel
theorem dL_law_754 : decode cL_law 754 = .ok (.iload_n 3, 1) := by decide +kernel
theorem dL_law_755 : decode cL_law 755 = .ok (.iconst 2, 1) := by decide +kernel
theorem dL_law_756 : decode cL_law 756 = .ok (.iadd, 1) := by decide +kernel
theorem dL_law_757 : decode cL_law 757 = .ok (.iaload, 1) := by decide +kernel
theorem dL_law_758 : decode cL_law 758 = .ok (.aload_n 0, 1) := by decide +kernel
theorem dL_law_759 : decode cL_law 759 = .ok (.iload_n 3, 1) := by decide +kernel
theorem dL_law_760 : decode cL_law 760 = .ok (.iconst 3, 1) := by decide +kernel
theorem dL_law_761 : decode cL_law 761 = .ok (.iadd, 1) := by decide +kernel
theorem dL_law_762 : decode cL_law 762 = .ok (.iaload, 1) := by decide +kernel
theorem dL_law_763 : decode cL_law 763 = .ok (.invokevirtual 109, 3) := by decide +kernel
theorem dL_law_766 : decode cL_law 766 = .ok (.aload_n 2, 1) := by decide +kernel
theorem dL_law_767 : decode cL_law 767 = .ok (.aload_n 0, 1) := by decide +kernel
theorem dL_law_768 : decode cL_law 768 = .ok (.iload_n 3, 1) := by decide +kernel
theorem dL_law_769 : decode cL_law 769 = .ok (.iconst 1, 1) := by decide +kernel
theorem dL_law_770 : decode cL_law 770 = .ok (.iadd, 1) := by decide +kernel
theorem dL_law_771 : decode cL_law 771 = .ok (.iaload, 1) := by decide +kernel
theorem dL_law_772 : decode cL_law 772 = .ok (.aload_n 0, 1) := by decide +kernel
theorem dL_law_773 : decode cL_law 773 = .ok (.iload_n 3, 1) := by decide +kernel
theorem dL_law_774 : decode cL_law 774 = .ok (.iconst 2, 1) := by decide +kernel
theorem dL_law_775 : decode cL_law 775 = .ok (.iadd, 1) := by decide +kernel
theorem dL_law_776 : decode cL_law 776 = .ok (.iaload, 1) := by decide +kernel
theorem dL_law_777 : decode cL_law 777 = .ok (.aload_n 0, 1) := by decide +kernel
theorem dL_law_778 : decode cL_law 778 = .ok (.iload_n 3, 1) := by decide +kernel
theorem dL_law_779 : decode cL_law 779 = .ok (.iconst 3, 1) := by decide +kernel
theorem dL_law_780 : decode cL_law 780 = .ok (.iadd, 1) := by decide +kernel
theorem dL_law_781 : decode cL_law 781 = .ok (.iaload, 1) := by decide +kernel
theorem dL_law_782 : decode cL_law 782 = .ok (.invokevirtual 112, 3) := by decide +kernel
theorem dL_law_785 : decode cL_law 785 = .ok (.if_icmp .eq 58, 3) := by decide +kernel
theorem dL_law_788 : decode cL_law 788 = .ok (.iconst 0, 1) := by decide +kernel
theorem dL_law_789 : decode cL_law 789 = .ok (.ireturn, 1) := by decide +kernel
theorem dL_law_790 : decode cL_law 790 = .ok (.aload_n 1, 1) := by decide +kernel
theorem dL_law_791 : decode cL_law 791 = .ok (.aload_n 0, 1) := by decide +kernel
theorem dL_law_792 : decode cL_law 792 = .ok (.iload_n 3, 1) := by decide +kernel
theorem dL_law_793 : decode cL_law 793 = .ok (.iconst 1, 1) := by decide +kernel
theorem dL_law_794 : decode cL_law 794 = .ok (.iadd, 1) := by decide +kernel
theorem dL_law_795 : decode cL_law 795 = .ok (.iaload, 1) := by decide +kernel
theorem dL_law_796 : decode cL_law 796 = .ok (.invokevirtual 113, 3) := by decide +kernel
theorem dL_law_799 : decode cL_law 799 = .ok (.f2d, 1) := by decide +kernel
theorem dL_law_800 : decode cL_law 800 = .ok (.dstore 4, 2) := by decide +kernel
theorem dL_law_802 : decode cL_law 802 = .ok (.aload_n 2, 1) := by decide +kernel
theorem dL_law_803 : decode cL_law 803 = .ok (.aload_n 0, 1) := by decide +kernel
theorem dL_law_804 : decode cL_law 804 = .ok (.iload_n 3, 1) := by decide +kernel
theorem dL_law_805 : decode cL_law 805 = .ok (.iconst 1, 1) := by decide +kernel
theorem dL_law_806 : decode cL_law 806 = .ok (.iadd, 1) := by decide +kernel
theorem dL_law_807 : decode cL_law 807 = .ok (.iaload, 1) := by decide +kernel
theorem dL_law_808 : decode cL_law 808 = .ok (.invokevirtual 117, 3) := by decide +kernel
theorem dL_law_811 : decode cL_law 811 = .ok (.f2d, 1) := by decide +kernel
theorem dL_law_812 : decode cL_law 812 = .ok (.dstore 6, 2) := by decide +kernel
theorem dL_law_814 : decode cL_law 814 = .ok (.dload 4, 2) := by decide +kernel
theorem dL_law_816 : decode cL_law 816 = .ok (.dload 6, 2) := by decide +kernel
theorem dL_law_818 : decode cL_law 818 = .ok (.dcmp .l, 1) := by decide +kernel
theorem dL_law_819 : decode cL_law 819 = .ok (.ifCond .eq 21, 3) := by decide +kernel
theorem dL_law_822 : decode cL_law 822 = .ok (.dload 4, 2) := by decide +kernel
theorem dL_law_824 : decode cL_law 824 = .ok (.dload 4, 2) := by decide +kernel
theorem dL_law_826 : decode cL_law 826 = .ok (.dcmp .l, 1) := by decide +kernel
theorem dL_law_827 : decode cL_law 827 = .ok (.ifCond .eq 11, 3) := by decide +kernel
theorem dL_law_830 : decode cL_law 830 = .ok (.dload 6, 2) := by decide +kernel
theorem dL_law_832 : decode cL_law 832 = .ok (.dload 6, 2) := by decide +kernel
theorem dL_law_834 : decode cL_law 834 = .ok (.dcmp .l, 1) := by decide +kernel
theorem dL_law_835 : decode cL_law 835 = .ok (.ifCond .ne 5, 3) := by decide +kernel
theorem dL_law_838 : decode cL_law 838 = .ok (.iconst 0, 1) := by decide +kernel
theorem dL_law_839 : decode cL_law 839 = .ok (.ireturn, 1) := by decide +kernel
theorem dL_law_840 : decode cL_law 840 = .ok (.goto 3, 3) := by decide +kernel
theorem dL_law_843 : decode cL_law 843 = .ok (.iinc 3 4, 3) := by decide +kernel
theorem dL_law_846 : decode cL_law 846 = .ok (.goto (-828), 3) := by decide +kernel
theorem dL_law_849 : decode cL_law 849 = .ok (.iconst 1, 1) := by decide +kernel
theorem dL_law_850 : decode cL_law 850 = .ok (.ireturn, 1) := by decide +kernel
abbrev vwCl : List vw_C := [(RX0, TX0, 1), (RX1, TX1, 2), (RX2, TX2, 2), (RX3, TX3, 7), (RX4, TX4, 13), (RX5, TX5, 8), (RX6, TX6, 13)]
end
section
/-! WORLDS AS MEMORIES. A world is a list of cells (block, place in the block), each with a shape that never changes and contents that are numbers: M block cell index. Refs in fields are fixed by the shape; a ref in an array of refs is kept as the number of the block that it names. -/
abbrev Mm : Type := Nat → Nat → Nat → Int32
abbrev Tm : Type := Nat → Nat → Int32
def wT (T : Tm) (a j : Nat) (v : Int32) : Tm := fun b => if b = a then upd (T a) j v else T b
def uM (M : Mm) (k : Nat) (T : Tm) : Mm := fun q => if q = k then T else M q
def wM (M : Mm) (k a j : Nat) (v : Int32) : Mm := uM M k (wT (M k) a j v)
theorem uM_same (M : Mm) (k : Nat) (T : Tm) : uM M k T k = T := by simp [uM]
theorem uM_ne (M : Mm) (k : Nat) (T : Tm) {q : Nat} (h : q ≠ k) : uM M k T q = M q := by simp [uM, h]
theorem uM_self (M : Mm) (k : Nat) : uM M k (M k) = M := by
  funext q
  by_cases h : q = k
  · subst h; simp [uM]
  · simp [uM, h]
theorem uM_uM (M : Mm) (k : Nat) (T T' : Tm) : uM (uM M k T) k T' = uM M k T' := by
  funext q
  by_cases h : q = k
  · subst h; simp [uM]
  · simp [uM, h]
theorem wM_uM (M : Mm) (k : Nat) (T : Tm) (a j : Nat) (v : Int32) : wM (uM M k T) k a j v = uM M k (wT T a j v) := by
  unfold wM
  rw [uM_same, uM_uM]
theorem wT_same (T : Tm) (a j : Nat) (v : Int32) : wT T a j v a = upd (T a) j v := by simp [wT]
theorem wT_ne (T : Tm) {a b : Nat} (j : Nat) (v : Int32) (h : b ≠ a) : wT T a j v b = T b := by simp [wT, h]
/-- shapes: (0, kind, fields), (1, n, _) an int row, (2, n, _) a char row, (3, n, _) a row of refs to State blocks -/
abbrev Sh : Type := Nat × Nat × List (Option (Nat × Nat))
abbrev Ly : Type := List (Nat × Nat) × (Nat → Nat → Sh)
/-- where a world lies: the numbers and slots of the kinds of objects and of rows, the addresses -/
abbrev Wd : Type := va_G × (Nat → ClassId) × (Nat → Nat → Nat)
abbrev th (ω : Wd) (k a : Nat) : Nat := ω.2.2 k a
def fV (ω : Wd) (f : Nat → Int32) (fs : List (Option (Nat × Nat))) : List Value := (List.range fs.length).map (fun j => match fs.getD j none with
  | some q => Value.ref (th ω q.1 q.2)
  | none => Value.int (f j))
def cE (ω : Wd) (sh : Sh) (f : Nat → Int32) : va_E := match sh.1 with
  | 0 => .inr (sh.2.1, fV ω f sh.2.2)
  | 1 => .inl (ω.2.1 0, sh.2.1, .inl f)
  | 2 => .inl (ω.2.1 1, sh.2.1, .inl f)
  | _ => .inl (ω.2.1 2, sh.2.1, .inr (.inr (.inr (.inr (fun j => some (th ω (f j).toNatClampNeg 0))))))
def wW (ω : Wd) (L : Ly) (M : Mm) : va_W := L.1.map (fun q => (th ω q.1 q.2, cE ω (L.2 q.1 q.2) (M q.1 q.2)))
abbrev tyW (ω : Wd) : List (ClassId × FieldType) := [(ω.2.1 0, .int), (ω.2.1 1, .char), (ω.2.1 2, .object RX4)]
abbrev inL (L : Ly) (k a : Nat) (sh : Sh) : Prop := (k, a) ∈ L.1 ∧ L.2 k a = sh
theorem wW_get {ω : Wd} {L : Ly} {M : Mm} {k a : Nat} {sh : Sh} (h : inL L k a sh) : ∃ p : Nat, L.1[p]? = some (k, a) ∧ (wW ω L M)[p]? = some (th ω k a, cE ω sh (M k a)) := by
  obtain ⟨p, hp⟩ := List.getElem?_of_mem h.1
  refine ⟨p, hp, ?_⟩
  unfold wW
  rw [List.getElem?_map, hp]
  simp [h.2]
theorem nd_inj {α : Type} {l : List α} (hN : l.Nodup) {i j : Nat} {a : α} (hi : l[i]? = some a) (hj : l[j]? = some a) : i = j := by
  obtain ⟨hil, e1⟩ := List.getElem?_eq_some_iff.mp hi
  obtain ⟨hjl, e2⟩ := List.getElem?_eq_some_iff.mp hj
  exact (List.getElem_inj hN).mp (e1.trans e2.symm)
theorem wW_at (ω : Wd) (L : Ly) (M : Mm) (i : Nat) : (wW ω L M)[i]? = (L.1[i]?).map (fun q => (th ω q.1 q.2, cE ω (L.2 q.1 q.2) (M q.1 q.2))) := List.getElem?_map ..
abbrev wF (ω : Wd) (L : Ly) (M : Mm) (q : Nat × Nat) : Nat × va_E := (th ω q.1 q.2, cE ω (L.2 q.1 q.2) (M q.1 q.2))
theorem map_set {α β : Type} {l : List α} {F G : α → β} {p : Nat} {a : α} {b : β} (hN : l.Nodup) (hp : l[p]? = some a) (hb : b = G a) (h : ∀ q, q ≠ a → F q = G q) : (l.map F).set p b = l.map G := by
  apply List.ext_getElem?
  intro i
  by_cases hi : i = p
  · subst hi
    have hl : i < (l.map F).length := by
      rw [List.length_map]
      exact (List.getElem?_eq_some_iff.mp hp).1
    rw [List.getElem?_set_self hl, List.getElem?_map, hp, hb]
    rfl
  · rw [List.getElem?_set_ne (Ne.symm hi), List.getElem?_map, List.getElem?_map]
    cases hq : l[i]? with
    | none => rfl
    | some q =>
      have hne : q ≠ a := fun e => hi (nd_inj hN (hq.trans (congrArg some e)) hp)
      show some (F q) = some (G q)
      rw [h q hne]
theorem wF_off {ω : Wd} {L : Ly} {M M' : Mm} {k a : Nat} (h2 : ∀ k' a', ¬ (k' = k ∧ a' = a) → M' k' a' = M k' a') (q : Nat × Nat) (hq : q ≠ (k, a)) : wF ω L M q = wF ω L M' q := by
  have e : M' q.1 q.2 = M q.1 q.2 := h2 q.1 q.2 (fun e => hq (Prod.ext e.1 e.2))
  exact congrArg (fun f => (th ω q.1 q.2, cE ω (L.2 q.1 q.2) f)) e.symm
theorem wF_on {ω : Wd} {L : Ly} {M' : Mm} {k a : Nat} {sh : Sh} (h : L.2 k a = sh) {f : Nat → Int32} (h1 : M' k a = f) : (th ω k a, cE ω sh f) = wF ω L M' (k, a) := by
  subst h
  subst h1
  rfl
theorem wW_set {ω : Wd} {L : Ly} {M : Mm} {k a p : Nat} {sh : Sh} (hN : L.1.Nodup) (h : inL L k a sh) (hp : L.1[p]? = some (k, a)) (f : Nat → Int32) (M' : Mm) (h1 : M' k a = f) (h2 : ∀ k' a', ¬ (k' = k ∧ a' = a) → M' k' a' = M k' a') :
    (wW ω L M).set p (th ω k a, cE ω sh f) = wW ω L M' := map_set (F := wF ω L M) (G := wF ω L M') hN hp (wF_on h.2 h1) (wF_off h2)
theorem wM_at (M : Mm) (k a j : Nat) (v : Int32) : wM M k a j v k a = upd (M k a) j v := by unfold wM; rw [uM_same, wT_same]
theorem wM_off (M : Mm) (k a j : Nat) (v : Int32) (k' a' : Nat) (h : ¬ (k' = k ∧ a' = a)) : wM M k a j v k' a' = M k' a' := by
  unfold wM
  by_cases hk : k' = k
  · subst hk
    rw [uM_same, wT_ne _ _ _ (fun e => h ⟨rfl, e⟩)]
  · rw [uM_ne _ _ _ hk]
theorem fV_get {ω : Wd} {f : Nat → Int32} {fs : List (Option (Nat × Nat))} {j k a : Nat} (h : fs[j]? = some (some (k, a))) : (fV ω f fs)[j]? = some (.ref (th ω k a)) := by
  have hl := (List.getElem?_eq_some_iff.mp h).1
  unfold fV
  rw [List.getElem?_map, List.getElem?_range hl]
  simp [List.getD_eq_getElem?_getD, h]
theorem fV_geti {ω : Wd} {f : Nat → Int32} {fs : List (Option (Nat × Nat))} {j : Nat} (h : fs[j]? = some none) : (fV ω f fs)[j]? = some (.int (f j)) := by
  have hl := (List.getElem?_eq_some_iff.mp h).1
  unfold fV
  rw [List.getElem?_map, List.getElem?_range hl]
  simp [List.getD_eq_getElem?_getD, h]
theorem fV_len (ω : Wd) (f : Nat → Int32) (fs : List (Option (Nat × Nat))) : (fV ω f fs).length = fs.length := by simp [fV]
theorem fV_set {ω : Wd} {f : Nat → Int32} {fs : List (Option (Nat × Nat))} {j : Nat} (h : fs[j]? = some none) (v : Int32) : (fV ω f fs).set j (.int v) = fV ω (upd f j v) fs := by
  have hl := (List.getElem?_eq_some_iff.mp h).1
  apply List.ext_getElem?
  intro i
  by_cases hi : i = j
  · subst hi
    rw [List.getElem?_set_self (by rw [fV_len]; exact hl), fV_geti h]
    simp [upd]
  · rw [List.getElem?_set_ne (Ne.symm hi)]
    unfold fV
    rw [List.getElem?_map, List.getElem?_map]
    by_cases hil : i < fs.length
    · rw [List.getElem?_range hil]
      simp [upd, hi]
    · rw [List.getElem?_eq_none (by simp; omega)]
      rfl
/-- a frame's own fixed things: program, launch, env, room, start, method, arguments, frames below, method, code, end, own cells, locals, what is to be answered -/
abbrev Cx : Type := Program × Launch × Env × Room × State × MethodId × Array Value × List Frame × Method × Code × (State → Prop) × (Nat → Prop) × Nat × (Int32 × Mm)
def WC (Γ : Cx) (H : Heap) (locs : List Loc) (g : JFrame) : Prop := match Γ with
  | (p, l, e, R, s, m, args, below, meth, c, Q, _, _, _) => W p l e R s m args below meth c H locs 0 0 Q g
abbrev gR (Γ : Cx) : Room := Γ.2.2.2.1
abbrev gs (Γ : Cx) : State := Γ.2.2.2.2.1
abbrev gm (Γ : Cx) : MethodId := Γ.2.2.2.2.2.1
abbrev ga (Γ : Cx) : Array Value := Γ.2.2.2.2.2.2.1
abbrev gc (Γ : Cx) : Code := Γ.2.2.2.2.2.2.2.2.2.1
abbrev gA (Γ : Cx) : Nat → Prop := Γ.2.2.2.2.2.2.2.2.2.2.2.1
abbrev gN (Γ : Cx) : Nat := Γ.2.2.2.2.2.2.2.2.2.2.2.2.1
abbrev gT (Γ : Cx) : Int32 × Mm := Γ.2.2.2.2.2.2.2.2.2.2.2.2.2
/-- from this place, with these locals, this stack and this memory, the machine comes to the end that Γ names -/
def Vr (Γ : Cx) (ω : Wd) (L : Ly) (pc : Nat) (lv : List (Nat × Value)) (st : List Value) (M : Mm) : Prop :=
  ∀ (ls : Array Slot) (H : Heap) (locs : List Loc), lv_has ls (gN Γ) lv → va_P ω.1 vwCl (wW ω L M) H → va_S (gA Γ) (gs Γ).heap H locs → WC Γ H locs (F0 (gm Γ) pc ls st)
/-- the addresses are apart -/
def Apart (ω : Wd) (L : Ly) : Prop := ∀ (i j : Nat) (p q : Nat × Nat), L.1[i]? = some p → L.1[j]? = some q → th ω p.1 p.2 = th ω q.1 q.2 → i = j
/-- the cells that a method of the world may change: the world's, and new ones -/
def aW (ω : Wd) (L : Ly) (sz : Nat) : Nat → Prop := fun q => (∃ i ∈ L.1, q = th ω i.1 i.2) ∨ sz ≤ q
theorem wD {ω : Wd} {L : Ly} {A : Nat → Prop} (h : Apart ω L ∧ ∀ q ∈ L.1, A (th ω q.1 q.2)) (M : Mm) : va_D A (wW ω L M) := by
  refine ⟨fun i j p q hi hj he => ?_, fun k q hk => ?_⟩
  · unfold wW at hi hj
    rw [List.getElem?_map] at hi hj
    cases h1 : L.1[i]? with
    | none => rw [h1] at hi; cases hi
    | some a =>
      cases h2 : L.1[j]? with
      | none => rw [h2] at hj; cases hj
      | some b =>
        rw [h1] at hi
        rw [h2] at hj
        cases hi
        cases hj
        exact h.1 i j a b h1 h2 he
  · unfold wW at hk
    rw [List.getElem?_map] at hk
    cases h1 : L.1[k]? with
    | none => rw [h1] at hk; cases hk
    | some a =>
      rw [h1] at hk
      cases hk
      exact h.2 a (List.mem_of_getElem? h1)
abbrev nstIdx : Nat := 58
/-- State's calls of its nest mate's isWithin -/
abbrev Nst (U : State) : Prop := va_Nw (.methodLinkNest RX4 nstIdx yX5_isWithin "ConkerHeirs") U
/-- what is known throughout a method -/
def CxOk (Γ : Cx) (l : Launch) (rm : Room) (nL : Nat) (ω : Wd) (L : Ly) (cc : ByteArray) (own : String) (ws : List Cond) : Prop :=
  Γ.2.1 = l ∧ gR Γ = rm ∧ gN Γ = nL ∧ Γ.1.tables.exec = Jvm.exec ∧ (gc Γ).code = cc ∧ (gc Γ).maxLocals = gN Γ ∧ (gs Γ).vm.findClass own = some (gm Γ).cls ∧ (∀ w ∈ ws, w.before (ga Γ) (gs Γ) = true) ∧ va_K ω.1 vwCl (tyW ω) (gs Γ) ∧ (Apart ω L ∧ ∀ q ∈ L.1, gA Γ (th ω q.1 q.2)) ∧ (∀ q, (gs Γ).heap.size ≤ q → gA Γ q) ∧ L.1.Nodup ∧ Nst (gs Γ)
/-- guards, calls, and what the machine computes -/
def gd {ρ : Type} (b : Bool) (X : Option ρ) : Option ρ := match b with
  | true => X
  | false => none
def nm {α ρ : Type} (e : α) (F : α → ρ) : ρ := F e
def bnd {σ τ : Type} (G : Option (Int32 × τ)) (F : Int32 → τ → Option (Int32 × σ)) : Option (Int32 × σ) := match G with
  | none => none
  | some (r, t) => F r t
theorem bnd_some {σ τ : Type} {G : Option (Int32 × τ)} {F : Int32 → τ → Option (Int32 × σ)} {q : Int32 × σ} (h : bnd G F = some q) : ∃ r t, G = some (r, t) ∧ F r t = some q := by
  match G, h with
  | none, h => cases h
  | some (r, t), h => exact ⟨r, t, rfl, h⟩
theorem bnd_eq {σ τ : Type} {G : Option (Int32 × τ)} {F : Int32 → τ → Option (Int32 × σ)} {r : Int32} {t : τ} (h : G = some (r, t)) : bnd G F = F r t := by rw [h]; rfl
def ib (i : Int32) (n : Nat) : Bool := !(decide (i < 0)) && decide (i.toNatClampNeg < n)
theorem ib_in {i : Int32} {n : Nat} (h : ib i n = true) : vp_in i n := by
  simp only [ib, Bool.and_eq_true, Bool.not_eq_true', decide_eq_true_eq, decide_eq_false_iff_not] at h
  intro hh
  rcases hh with h1 | h1
  · exact h.1 h1
  · omega
def nb (ty : FieldType) (v : Int32) : Bool := decide (vp_nar ty v = v)
def mn (a b : Int32) : Int32 := if b < a then b else a
def mx (a b : Int32) : Int32 := if a < b then b else a
/-- n places of f, from the first on, into the row a -/
def cT (T : Tm) (a : Nat) (f : Nat → Int32) (n : Nat) : Tm := fun b => if b = a then va_cpy f (T a) 0 0 n else T b
theorem cT_same (T : Tm) (a : Nat) (f : Nat → Int32) (n : Nat) : cT T a f n a = va_cpy f (T a) 0 0 n := by simp [cT]
theorem cT_ne (T : Tm) {a b : Nat} (f : Nat → Int32) (n : Nat) (h : b ≠ a) : cT T a f n b = T b := by simp [cT, h]
/-- a world without cells -/
def L00 : Ly := ([], fun _ _ => (0, 0, []))
def M00 : Mm := fun _ _ _ => 0
/-- the machine from here does what X says -/
def Gq {σ : Type} (Γ : Cx) (ω : Wd) (L : Ly) (em : σ → Mm) (pc : Nat) (lv : List (Nat × Value)) (st : List Value) (x : σ) (X : Option (Int32 × σ)) : Prop :=
  ∀ q : Int32 × σ, X = some q → gT Γ = (q.1, em q.2) → Vr Γ ω L pc lv st (em x)
/-- ends -/
def RetI (Γ : Cx) (ω : Wd) (L : Ly) (cc : ByteArray) (ty : FieldType) : Prop := ∀ (pc : Nat) (ls : Array Slot) (H : Heap) (locs : List Loc), decode cc pc = .ok (.ireturn, 1) → narrow ty (.int (gT Γ).1) = .int (gT Γ).1 → va_P ω.1 vwCl (wW ω L (gT Γ).2) H → va_S (gA Γ) (gs Γ).heap H locs → WC Γ H locs (F0 (gm Γ) pc ls [.int (gT Γ).1])
def RetV (Γ : Cx) (ω : Wd) (L : Ly) (cc : ByteArray) : Prop := ∀ (pc : Nat) (ls : Array Slot) (H : Heap) (locs : List Loc), decode cc pc = .ok (.return_, 1) → va_P ω.1 vwCl (wW ω L (gT Γ).2) H → va_S (gA Γ) (gs Γ).heap H locs → WC Γ H locs (F0 (gm Γ) pc ls [])
def RetF (Γ : Cx) (ω : Wd) (L : Ly) (cc : ByteArray) : Prop := ∀ (pc : Nat) (ls : Array Slot) (H : Heap) (locs : List Loc), decode cc pc = .ok (.freturn, 1) → va_P ω.1 vwCl (wW ω L (gT Γ).2) H → va_S (gA Γ) (gs Γ).heap H locs → WC Γ H locs (F0 (gm Γ) pc ls [.float (gT Γ).1.toUInt32])
section ROWS
variable {σ : Type} {Γ : Cx} {l : Launch} {rm : Room} {nL : Nat} {ω : Wd} {L : Ly} {cc : ByteArray} {own : String} {ws : List Cond} {em : σ → Mm} {pc : Nat} {lv : List (Nat × Value)} {st : List Value} {x : σ} {X Y : Option (Int32 × σ)}
theorem g_if {c : Prop} {_ : Decidable c} (a : c → Gq Γ ω L em pc lv st x X) (b : ¬ c → Gq Γ ω L em pc lv st x Y) : Gq Γ ω L em pc lv st x (if c then X else Y) := by
  by_cases h : c
  · rw [if_pos h]; exact a h
  · rw [if_neg h]; exact b h
theorem g_gd {c : Bool} (a : c = true → Gq Γ ω L em pc lv st x X) : Gq Γ ω L em pc lv st x (gd c X) := by
  cases c with
  | true => exact a rfl
  | false => exact fun q hq => by cases hq
theorem g_ni {e : Int32} {F : Int32 → Option (Int32 × σ)} (k : ∀ v, Gq Γ ω L em pc lv (.int v :: st) x (F v)) : Gq Γ ω L em pc lv (.int e :: st) x (nm e F) := k e
theorem g_nr {e : Int32} {F : Int32 → Option (Int32 × σ)} (k : ∀ v : Int32, Gq Γ ω L em pc lv (.ref (th ω v.toNatClampNeg 0) :: st) x (F v)) : Gq Γ ω L em pc lv (.ref (th ω e.toNatClampNeg 0) :: st) x (nm e F) := k e
theorem g_nm {F : σ → Option (Int32 × σ)} (k : ∀ t, Gq Γ ω L em pc lv st t (F t)) : Gq Γ ω L em pc lv st x (nm x F) := k x
theorem g_none : Gq Γ ω L em pc lv st x (none : Option (Int32 × σ)) := fun q hq => by cases hq
theorem g_sub (ks : List Nat) {lv' : List (Nat × Value)} (hl : lv_pick lv ks = lv') (k : Gq Γ ω L em pc lv' st x X) : Gq Γ ω L em pc lv st x X :=
  fun q hq ht ls H locs hh hP hS => k q hq ht ls H locs (lv_sub hh ks hl) hP hS
theorem g_iconst (h : CxOk Γ l rm nL ω L cc own ws) {n : Int} (v : Int32) (hdg : decode cc pc = .ok (.iconst n, 1))
    (hv : Int32.ofInt n = v) (k : Gq Γ ω L em (pc + 1) lv (.int v :: st) x X) : Gq Γ ω L em pc lv (st) x X := by
  obtain ⟨p, l', e, R, s, m, args, below, meth, c, Q, A, nL', tgt⟩ := Γ
  obtain ⟨-, -, hnL, hx, hb, hml, hown, hts, hK, hD, hA, hN, hZ⟩ := h
  exact fun q hq ht ls H locs hh hP hS => lv_iconst hx hb hdg hv (k q hq ht ls H locs hh hP hS)
theorem g_bipush (h : CxOk Γ l rm nL ω L cc own ws) {n : Int} (v : Int32) (hdg : decode cc pc = .ok (.bipush n, 2))
    (hv : (Int8.ofInt n).toInt32 = v) (k : Gq Γ ω L em (pc + 2) lv (.int v :: st) x X) : Gq Γ ω L em pc lv (st) x X := by
  obtain ⟨p, l', e, R, s, m, args, below, meth, c, Q, A, nL', tgt⟩ := Γ
  obtain ⟨-, -, hnL, hx, hb, hml, hown, hts, hK, hD, hA, hN, hZ⟩ := h
  exact fun q hq ht ls H locs hh hP hS => lv_bipush hx hb hdg hv (k q hq ht ls H locs hh hP hS)
theorem g_sipush (h : CxOk Γ l rm nL ω L cc own ws) {n : Int} (v : Int32) (hdg : decode cc pc = .ok (.sipush n, 3))
    (hv : (Int16.ofInt n).toInt32 = v) (k : Gq Γ ω L em (pc + 3) lv (.int v :: st) x X) : Gq Γ ω L em pc lv (st) x X := by
  obtain ⟨p, l', e, R, s, m, args, below, meth, c, Q, A, nL', tgt⟩ := Γ
  obtain ⟨-, -, hnL, hx, hb, hml, hown, hts, hK, hD, hA, hN, hZ⟩ := h
  exact fun q hq ht ls H locs hh hP hS => lv_sipush hx hb hdg hv (k q hq ht ls H locs hh hP hS)
theorem g_iload_n (h : CxOk Γ l rm nL ω L cc own ws) {n : Fin 4} {i : Nat} {v : Int32} (j : Nat) (hdg : decode cc pc = .ok (.iload_n n, 1))
    (hi : (n : Nat) = i) (hj : lv[j]? = some (i, .int v)) (k : Gq Γ ω L em (pc + 1) lv (.int v :: st) x X) : Gq Γ ω L em pc lv (st) x X := by
  obtain ⟨p, l', e, R, s, m, args, below, meth, c, Q, A, nL', tgt⟩ := Γ
  obtain ⟨-, -, hnL, hx, hb, hml, hown, hts, hK, hD, hA, hN, hZ⟩ := h
  exact fun q hq ht ls H locs hh hP hS => lv_iload_n hx hb hdg hi (lv_at hh j hj) (k q hq ht ls H locs hh hP hS)
theorem g_iload (h : CxOk Γ l rm nL ω L cc own ws) {i : Nat} {v : Int32} (j : Nat) (hdg : decode cc pc = .ok (.iload i, 2))
    (hj : lv[j]? = some (i, .int v)) (k : Gq Γ ω L em (pc + 2) lv (.int v :: st) x X) : Gq Γ ω L em pc lv (st) x X := by
  obtain ⟨p, l', e, R, s, m, args, below, meth, c, Q, A, nL', tgt⟩ := Γ
  obtain ⟨-, -, hnL, hx, hb, hml, hown, hts, hK, hD, hA, hN, hZ⟩ := h
  exact fun q hq ht ls H locs hh hP hS => lv_iload hx hb hdg (lv_at hh j hj) (k q hq ht ls H locs hh hP hS)
theorem g_aload_n (h : CxOk Γ l rm nL ω L cc own ws) {n : Fin 4} {i : Nat} {v : Nat} (j : Nat) (hdg : decode cc pc = .ok (.aload_n n, 1))
    (hi : (n : Nat) = i) (hj : lv[j]? = some (i, .ref v)) (k : Gq Γ ω L em (pc + 1) lv (.ref v :: st) x X) : Gq Γ ω L em pc lv (st) x X := by
  obtain ⟨p, l', e, R, s, m, args, below, meth, c, Q, A, nL', tgt⟩ := Γ
  obtain ⟨-, -, hnL, hx, hb, hml, hown, hts, hK, hD, hA, hN, hZ⟩ := h
  exact fun q hq ht ls H locs hh hP hS => lv_aload_n hx hb hdg hi (lv_at hh j hj) (k q hq ht ls H locs hh hP hS)
theorem g_aload (h : CxOk Γ l rm nL ω L cc own ws) {i : Nat} {v : Nat} (j : Nat) (hdg : decode cc pc = .ok (.aload i, 2))
    (hj : lv[j]? = some (i, .ref v)) (k : Gq Γ ω L em (pc + 2) lv (.ref v :: st) x X) : Gq Γ ω L em pc lv (st) x X := by
  obtain ⟨p, l', e, R, s, m, args, below, meth, c, Q, A, nL', tgt⟩ := Γ
  obtain ⟨-, -, hnL, hx, hb, hml, hown, hts, hK, hD, hA, hN, hZ⟩ := h
  exact fun q hq ht ls H locs hh hP hS => lv_aload hx hb hdg (lv_at hh j hj) (k q hq ht ls H locs hh hP hS)
theorem g_iadd (h : CxOk Γ l rm nL ω L cc own ws) {a b : Int32} (hdg : decode cc pc = .ok (.iadd, 1))
     (k : Gq Γ ω L em (pc + 1) lv (.int (a + b) :: st) x X) : Gq Γ ω L em pc lv (.int b :: .int a :: st) x X := by
  obtain ⟨p, l', e, R, s, m, args, below, meth, c, Q, A, nL', tgt⟩ := Γ
  obtain ⟨-, -, hnL, hx, hb, hml, hown, hts, hK, hD, hA, hN, hZ⟩ := h
  exact fun q hq ht ls H locs hh hP hS => lv_iadd hx hb hdg  (k q hq ht ls H locs hh hP hS)
theorem g_isub (h : CxOk Γ l rm nL ω L cc own ws) {a b : Int32} (hdg : decode cc pc = .ok (.isub, 1))
     (k : Gq Γ ω L em (pc + 1) lv (.int (a - b) :: st) x X) : Gq Γ ω L em pc lv (.int b :: .int a :: st) x X := by
  obtain ⟨p, l', e, R, s, m, args, below, meth, c, Q, A, nL', tgt⟩ := Γ
  obtain ⟨-, -, hnL, hx, hb, hml, hown, hts, hK, hD, hA, hN, hZ⟩ := h
  exact fun q hq ht ls H locs hh hP hS => lv_isub hx hb hdg  (k q hq ht ls H locs hh hP hS)
theorem g_imul (h : CxOk Γ l rm nL ω L cc own ws) {a b : Int32} (hdg : decode cc pc = .ok (.imul, 1))
     (k : Gq Γ ω L em (pc + 1) lv (.int (a * b) :: st) x X) : Gq Γ ω L em pc lv (.int b :: .int a :: st) x X := by
  obtain ⟨p, l', e, R, s, m, args, below, meth, c, Q, A, nL', tgt⟩ := Γ
  obtain ⟨-, -, hnL, hx, hb, hml, hown, hts, hK, hD, hA, hN, hZ⟩ := h
  exact fun q hq ht ls H locs hh hP hS => lv_imul hx hb hdg  (k q hq ht ls H locs hh hP hS)
theorem g_iand (h : CxOk Γ l rm nL ω L cc own ws) {a b : Int32} (hdg : decode cc pc = .ok (.iand, 1))
     (k : Gq Γ ω L em (pc + 1) lv (.int (a &&& b) :: st) x X) : Gq Γ ω L em pc lv (.int b :: .int a :: st) x X := by
  obtain ⟨p, l', e, R, s, m, args, below, meth, c, Q, A, nL', tgt⟩ := Γ
  obtain ⟨-, -, hnL, hx, hb, hml, hown, hts, hK, hD, hA, hN, hZ⟩ := h
  exact fun q hq ht ls H locs hh hP hS => lv_iand hx hb hdg  (k q hq ht ls H locs hh hP hS)
theorem g_i2c (h : CxOk Γ l rm nL ω L cc own ws) {a v : Int32} (hdg : decode cc pc = .ok (.i2c, 1))
    (hv : (a.toUInt32 % 65536).toInt32 = v) (k : Gq Γ ω L em (pc + 1) lv (.int v :: st) x X) : Gq Γ ω L em pc lv (.int a :: st) x X := by
  obtain ⟨p, l', e, R, s, m, args, below, meth, c, Q, A, nL', tgt⟩ := Γ
  obtain ⟨-, -, hnL, hx, hb, hml, hown, hts, hK, hD, hA, hN, hZ⟩ := h
  exact fun q hq ht ls H locs hh hP hS => lv_i2c hx hb hdg hv (k q hq ht ls H locs hh hP hS)
theorem g_i2f (h : CxOk Γ l rm nL ω L cc own ws) {a : Int32} (hdg : decode cc pc = .ok (.i2f, 1))
     (k : Gq Γ ω L em (pc + 1) lv (.float (FP.i2f a) :: st) x X) : Gq Γ ω L em pc lv (.int a :: st) x X := by
  obtain ⟨p, l', e, R, s, m, args, below, meth, c, Q, A, nL', tgt⟩ := Γ
  obtain ⟨-, -, hnL, hx, hb, hml, hown, hts, hK, hD, hA, hN, hZ⟩ := h
  exact fun q hq ht ls H locs hh hP hS => lv_i2f hx hb hdg  (k q hq ht ls H locs hh hP hS)
theorem g_fconst0 (h : CxOk Γ l rm nL ω L cc own ws)  (hdg : decode cc pc = .ok (.fconst 0, 1))
     (k : Gq Γ ω L em (pc + 1) lv (.float FP.fconst0 :: st) x X) : Gq Γ ω L em pc lv (st) x X := by
  obtain ⟨p, l', e, R, s, m, args, below, meth, c, Q, A, nL', tgt⟩ := Γ
  obtain ⟨-, -, hnL, hx, hb, hml, hown, hts, hK, hD, hA, hN, hZ⟩ := h
  exact fun q hq ht ls H locs hh hP hS => lv_fconst0 hx hb hdg  (k q hq ht ls H locs hh hP hS)
theorem g_dup (h : CxOk Γ l rm nL ω L cc own ws) {v : Value} (hdg : decode cc pc = .ok (.dup, 1))
    (hv : v.category = 1) (k : Gq Γ ω L em (pc + 1) lv (v :: v :: st) x X) : Gq Γ ω L em pc lv (v :: st) x X := by
  obtain ⟨p, l', e, R, s, m, args, below, meth, c, Q, A, nL', tgt⟩ := Γ
  obtain ⟨-, -, hnL, hx, hb, hml, hown, hts, hK, hD, hA, hN, hZ⟩ := h
  exact fun q hq ht ls H locs hh hP hS => lv_dup hx hb hdg hv (k q hq ht ls H locs hh hP hS)
theorem g_pop (h : CxOk Γ l rm nL ω L cc own ws) {v : Value} (hdg : decode cc pc = .ok (.pop, 1))
    (hv : v.category = 1) (k : Gq Γ ω L em (pc + 1) lv (st) x X) : Gq Γ ω L em pc lv (v :: st) x X := by
  obtain ⟨p, l', e, R, s, m, args, below, meth, c, Q, A, nL', tgt⟩ := Γ
  obtain ⟨-, -, hnL, hx, hb, hml, hown, hts, hK, hD, hA, hN, hZ⟩ := h
  exact fun q hq ht ls H locs hh hP hS => lv_pop hx hb hdg hv (k q hq ht ls H locs hh hP hS)
theorem g_dup2 (h : CxOk Γ l rm nL ω L cc own ws) {v w : Value} (hdg : decode cc pc = .ok (.dup2, 1))
    (hv : v.category = 1) (hw : w.category = 1) (k : Gq Γ ω L em (pc + 1) lv (v :: w :: v :: w :: st) x X) : Gq Γ ω L em pc lv (v :: w :: st) x X := by
  obtain ⟨p, l', e, R, s, m, args, below, meth, c, Q, A, nL', tgt⟩ := Γ
  obtain ⟨-, -, hnL, hx, hb, hml, hown, hts, hK, hD, hA, hN, hZ⟩ := h
  exact fun q hq ht ls H locs hh hP hS => lv_dup2_11 hx hb hdg hv hw (k q hq ht ls H locs hh hP hS)
theorem g_goto (h : CxOk Γ l rm nL ω L cc own ws) {off : Int} {tgt : Nat} (hdg : decode cc pc = .ok (.goto off, 3)) (ht : (pc : Int) + off = (tgt : Int)) (k : Gq Γ ω L em tgt lv st x X) : Gq Γ ω L em pc lv st x X := by
  obtain ⟨p, l', e, R, s, m, args, below, meth, c, Q, A, nL', tgt⟩ := Γ
  obtain ⟨-, -, hnL, hx, hb, hml, hown, hts, hK, hD, hA, hN, hZ⟩ := h
  exact fun q hq ht' ls H locs hh hP hS => lv_goto hx hb hdg ht (k q hq ht' ls H locs hh hP hS)
theorem g_idiv (h : CxOk Γ l rm nL ω L cc own ws) {a b : Int32} (hdg : decode cc pc = .ok (.idiv, 1)) (k : Gq Γ ω L em (pc + 1) lv (.int (a / b) :: st) x X) : Gq Γ ω L em pc lv (.int b :: .int a :: st) x (gd (!decide (b = 0)) X) := by
  refine g_gd (fun hb0 => ?_)
  obtain ⟨p, l', e, R, s, m, args, below, meth, c, Q, A, nL', tgt⟩ := Γ
  obtain ⟨-, -, hnL, hx, hb, hml, hown, hts, hK, hD, hA, hN, hZ⟩ := h
  exact fun q hq ht ls H locs hh hP hS => lv_idiv hx hb hdg (by simpa using hb0) (k q hq ht ls H locs hh hP hS)
theorem g_irem (h : CxOk Γ l rm nL ω L cc own ws) {a b : Int32} (hdg : decode cc pc = .ok (.irem, 1)) (k : Gq Γ ω L em (pc + 1) lv (.int (a - a / b * b) :: st) x X) : Gq Γ ω L em pc lv (.int b :: .int a :: st) x (gd (!decide (b = 0)) X) := by
  refine g_gd (fun hb0 => ?_)
  obtain ⟨p, l', e, R, s, m, args, below, meth, c, Q, A, nL', tgt⟩ := Γ
  obtain ⟨-, -, hnL, hx, hb, hml, hown, hts, hK, hD, hA, hN, hZ⟩ := h
  exact fun q hq ht ls H locs hh hP hS => lv_irem hx hb hdg (by simpa using hb0) (k q hq ht ls H locs hh hP hS)
theorem g_fdiv (h : CxOk Γ l rm nL ω L cc own ws) {a b : UInt32} (hdg : decode cc pc = .ok (.fdiv, 1)) (k : Gq Γ ω L em (pc + 1) lv (.float (FP.fdiv a b) :: st) x X) : Gq Γ ω L em pc lv (.float b :: .float a :: st) x (gd (decide (FP.fdiv a b &&& 0x7fffffff ≤ 0x7f800000)) X) := by
  refine g_gd (fun hb0 => ?_)
  obtain ⟨p, l', e, R, s, m, args, below, meth, c, Q, A, nL', tgt⟩ := Γ
  obtain ⟨-, -, hnL, hx, hb, hml, hown, hts, hK, hD, hA, hN, hZ⟩ := h
  exact fun q hq ht ls H locs hh hP hS => lv_fdiv hx hb hdg (by unfold vf_n32; simpa using hb0) (k q hq ht ls H locs hh hP hS)
theorem g_istore_n (h : CxOk Γ l rm nL ω L cc own ws) {n : Fin 4} {i : Nat} (hi : (n : Nat) = i) {v : Int32} {lv' : List (Nat × Value)} (hdg : decode cc pc = .ok (.istore_n n, 1)) (hn : i < nL) (ks : List Nat) (hl : lv_pick ((i, Value.int v) :: lv.filter (fun q => !(q.1 == i) && !(q.1 + 1 == i && q.2.category == 2))) ks = lv') (k : Gq Γ ω L em (pc + 1) lv' st x X) : Gq Γ ω L em pc lv (Value.int v :: st) x X := by
  obtain ⟨p, l', e, R, s, m, args, below, meth, c, Q, A, nL', tgt⟩ := Γ
  obtain ⟨-, -, hnL, hx, hb, hml, hown, hts, hK, hD, hA, hN, hZ⟩ := h
  exact fun q hq ht ls H locs hh hP hS => lv_istore_n hx hb hdg hi hh (hnL.symm ▸ hn) rfl (fun ls' hh' => k q hq ht ls' H locs (lv_sub hh' ks hl) hP hS)
theorem g_istore (h : CxOk Γ l rm nL ω L cc own ws) {i : Nat} {v : Int32} {lv' : List (Nat × Value)} (hdg : decode cc pc = .ok (.istore i, 2)) (hn : i < nL) (ks : List Nat) (hl : lv_pick ((i, Value.int v) :: lv.filter (fun q => !(q.1 == i) && !(q.1 + 1 == i && q.2.category == 2))) ks = lv') (k : Gq Γ ω L em (pc + 2) lv' st x X) : Gq Γ ω L em pc lv (Value.int v :: st) x X := by
  obtain ⟨p, l', e, R, s, m, args, below, meth, c, Q, A, nL', tgt⟩ := Γ
  obtain ⟨-, -, hnL, hx, hb, hml, hown, hts, hK, hD, hA, hN, hZ⟩ := h
  exact fun q hq ht ls H locs hh hP hS => lv_istore hx hb hdg  hh (hnL.symm ▸ hn) rfl (fun ls' hh' => k q hq ht ls' H locs (lv_sub hh' ks hl) hP hS)
theorem g_astore_n (h : CxOk Γ l rm nL ω L cc own ws) {n : Fin 4} {i : Nat} (hi : (n : Nat) = i) {v : Nat} {lv' : List (Nat × Value)} (hdg : decode cc pc = .ok (.astore_n n, 1)) (hn : i < nL) (ks : List Nat) (hl : lv_pick ((i, Value.ref v) :: lv.filter (fun q => !(q.1 == i) && !(q.1 + 1 == i && q.2.category == 2))) ks = lv') (k : Gq Γ ω L em (pc + 1) lv' st x X) : Gq Γ ω L em pc lv (Value.ref v :: st) x X := by
  obtain ⟨p, l', e, R, s, m, args, below, meth, c, Q, A, nL', tgt⟩ := Γ
  obtain ⟨-, -, hnL, hx, hb, hml, hown, hts, hK, hD, hA, hN, hZ⟩ := h
  exact fun q hq ht ls H locs hh hP hS => lv_astore_n hx hb hdg hi hh (hnL.symm ▸ hn) rfl (fun ls' hh' => k q hq ht ls' H locs (lv_sub hh' ks hl) hP hS)
theorem g_astore (h : CxOk Γ l rm nL ω L cc own ws) {i : Nat} {v : Nat} {lv' : List (Nat × Value)} (hdg : decode cc pc = .ok (.astore i, 2)) (hn : i < nL) (ks : List Nat) (hl : lv_pick ((i, Value.ref v) :: lv.filter (fun q => !(q.1 == i) && !(q.1 + 1 == i && q.2.category == 2))) ks = lv') (k : Gq Γ ω L em (pc + 2) lv' st x X) : Gq Γ ω L em pc lv (Value.ref v :: st) x X := by
  obtain ⟨p, l', e, R, s, m, args, below, meth, c, Q, A, nL', tgt⟩ := Γ
  obtain ⟨-, -, hnL, hx, hb, hml, hown, hts, hK, hD, hA, hN, hZ⟩ := h
  exact fun q hq ht ls H locs hh hP hS => lv_astore hx hb hdg  hh (hnL.symm ▸ hn) rfl (fun ls' hh' => k q hq ht ls' H locs (lv_sub hh' ks hl) hP hS)
theorem g_iinc (h : CxOk Γ l rm nL ω L cc own ws) {i : Nat} {n : Int} {a : Int32} (v : Int32) {lv' : List (Nat × Value)} (hdg : decode cc pc = .ok (.iinc i n, 3)) (j : Nat) (hj : lv[j]? = some (i, .int a)) (hv : a + Int32.ofInt n = v) (hn : i < nL) (ks : List Nat) (hl : lv_pick ((i, Value.int v) :: lv.filter (fun q => !(q.1 == i) && !(q.1 + 1 == i && q.2.category == 2))) ks = lv') (k : Gq Γ ω L em (pc + 3) lv' st x X) : Gq Γ ω L em pc lv st x X := by
  obtain ⟨p, l', e, R, s, m, args, below, meth, c, Q, A, nL', tgt⟩ := Γ
  obtain ⟨-, -, hnL, hx, hb, hml, hown, hts, hK, hD, hA, hN, hZ⟩ := h
  exact fun q hq ht ls H locs hh hP hS => lv_iinc hx hb hdg hh hj hv (hnL.symm ▸ hn) rfl (fun ls' hh' => k q hq ht ls' H locs (lv_sub hh' ks hl) hP hS)
theorem g_if_eq (h : CxOk Γ l rm nL ω L cc own ws) {a : Int32} {off : Int} (tgt : Nat) (hdg : decode cc pc = .ok (.ifCond .eq off, 3)) (ht : (pc : Int) + off = (tgt : Int)) (kt : a = 0 → Gq Γ ω L em tgt lv st x X) (kf : ¬ a = 0 → Gq Γ ω L em (pc + 3) lv st x Y) : Gq Γ ω L em pc lv (.int a :: st) x (if a = 0 then X else Y) := by
  obtain ⟨p, l', e, R, s, m, args, below, meth, c, Q, A, nL', tg⟩ := Γ
  obtain ⟨-, -, hnL, hx, hb, hml, hown, hts, hK, hD, hA, hN, hZ⟩ := h
  by_cases hc : a = 0
  · rw [if_pos hc]
    exact fun q hq ht' ls H locs hh hP hS => lv_if_eq hx hb hdg ht (fun hn => kt hc q hq ht' ls H locs hh hP hS) (fun hn => absurd hc hn)
  · rw [if_neg hc]
    exact fun q hq ht' ls H locs hh hP hS => lv_if_eq hx hb hdg ht (fun hn => absurd hn hc) (fun hn => kf hc q hq ht' ls H locs hh hP hS)
theorem g_icmp_eq (h : CxOk Γ l rm nL ω L cc own ws) {a b : Int32} {off : Int} (tgt : Nat) (hdg : decode cc pc = .ok (.if_icmp .eq off, 3)) (ht : (pc : Int) + off = (tgt : Int)) (kt : a = b → Gq Γ ω L em tgt lv st x X) (kf : ¬ a = b → Gq Γ ω L em (pc + 3) lv st x Y) : Gq Γ ω L em pc lv (.int b :: .int a :: st) x (if a = b then X else Y) := by
  obtain ⟨p, l', e, R, s, m, args, below, meth, c, Q, A, nL', tg⟩ := Γ
  obtain ⟨-, -, hnL, hx, hb, hml, hown, hts, hK, hD, hA, hN, hZ⟩ := h
  by_cases hc : a = b
  · rw [if_pos hc]
    exact fun q hq ht' ls H locs hh hP hS => lv_icmp_eq hx hb hdg ht (fun hn => kt hc q hq ht' ls H locs hh hP hS) (fun hn => absurd hc hn)
  · rw [if_neg hc]
    exact fun q hq ht' ls H locs hh hP hS => lv_icmp_eq hx hb hdg ht (fun hn => absurd hn hc) (fun hn => kf hc q hq ht' ls H locs hh hP hS)
theorem g_if_ne (h : CxOk Γ l rm nL ω L cc own ws) {a : Int32} {off : Int} (tgt : Nat) (hdg : decode cc pc = .ok (.ifCond .ne off, 3)) (ht : (pc : Int) + off = (tgt : Int)) (kf : a = 0 → Gq Γ ω L em (pc + 3) lv st x X) (kt : ¬ a = 0 → Gq Γ ω L em tgt lv st x Y) : Gq Γ ω L em pc lv (.int a :: st) x (if a = 0 then X else Y) := by
  obtain ⟨p, l', e, R, s, m, args, below, meth, c, Q, A, nL', tg⟩ := Γ
  obtain ⟨-, -, hnL, hx, hb, hml, hown, hts, hK, hD, hA, hN, hZ⟩ := h
  by_cases hc : a = 0
  · rw [if_pos hc]
    exact fun q hq ht' ls H locs hh hP hS => lv_if_ne hx hb hdg ht (fun hn => absurd hc hn) (fun hn => kf hc q hq ht' ls H locs hh hP hS)
  · rw [if_neg hc]
    exact fun q hq ht' ls H locs hh hP hS => lv_if_ne hx hb hdg ht (fun hn => kt hc q hq ht' ls H locs hh hP hS) (fun hn => absurd hn hc)
theorem g_icmp_ne (h : CxOk Γ l rm nL ω L cc own ws) {a b : Int32} {off : Int} (tgt : Nat) (hdg : decode cc pc = .ok (.if_icmp .ne off, 3)) (ht : (pc : Int) + off = (tgt : Int)) (kf : a = b → Gq Γ ω L em (pc + 3) lv st x X) (kt : ¬ a = b → Gq Γ ω L em tgt lv st x Y) : Gq Γ ω L em pc lv (.int b :: .int a :: st) x (if a = b then X else Y) := by
  obtain ⟨p, l', e, R, s, m, args, below, meth, c, Q, A, nL', tg⟩ := Γ
  obtain ⟨-, -, hnL, hx, hb, hml, hown, hts, hK, hD, hA, hN, hZ⟩ := h
  by_cases hc : a = b
  · rw [if_pos hc]
    exact fun q hq ht' ls H locs hh hP hS => lv_icmp_ne hx hb hdg ht (fun hn => absurd hc hn) (fun hn => kf hc q hq ht' ls H locs hh hP hS)
  · rw [if_neg hc]
    exact fun q hq ht' ls H locs hh hP hS => lv_icmp_ne hx hb hdg ht (fun hn => kt hc q hq ht' ls H locs hh hP hS) (fun hn => absurd hn hc)
theorem g_if_lt (h : CxOk Γ l rm nL ω L cc own ws) {a : Int32} {off : Int} (tgt : Nat) (hdg : decode cc pc = .ok (.ifCond .lt off, 3)) (ht : (pc : Int) + off = (tgt : Int)) (kt : a < 0 → Gq Γ ω L em tgt lv st x X) (kf : ¬ a < 0 → Gq Γ ω L em (pc + 3) lv st x Y) : Gq Γ ω L em pc lv (.int a :: st) x (if a < 0 then X else Y) := by
  obtain ⟨p, l', e, R, s, m, args, below, meth, c, Q, A, nL', tg⟩ := Γ
  obtain ⟨-, -, hnL, hx, hb, hml, hown, hts, hK, hD, hA, hN, hZ⟩ := h
  by_cases hc : a < 0
  · rw [if_pos hc]
    exact fun q hq ht' ls H locs hh hP hS => lv_if_lt hx hb hdg ht (fun hn => kt hc q hq ht' ls H locs hh hP hS) (fun hn => absurd hc hn)
  · rw [if_neg hc]
    exact fun q hq ht' ls H locs hh hP hS => lv_if_lt hx hb hdg ht (fun hn => absurd hn hc) (fun hn => kf hc q hq ht' ls H locs hh hP hS)
theorem g_icmp_lt (h : CxOk Γ l rm nL ω L cc own ws) {a b : Int32} {off : Int} (tgt : Nat) (hdg : decode cc pc = .ok (.if_icmp .lt off, 3)) (ht : (pc : Int) + off = (tgt : Int)) (kt : a < b → Gq Γ ω L em tgt lv st x X) (kf : ¬ a < b → Gq Γ ω L em (pc + 3) lv st x Y) : Gq Γ ω L em pc lv (.int b :: .int a :: st) x (if a < b then X else Y) := by
  obtain ⟨p, l', e, R, s, m, args, below, meth, c, Q, A, nL', tg⟩ := Γ
  obtain ⟨-, -, hnL, hx, hb, hml, hown, hts, hK, hD, hA, hN, hZ⟩ := h
  by_cases hc : a < b
  · rw [if_pos hc]
    exact fun q hq ht' ls H locs hh hP hS => lv_icmp_lt hx hb hdg ht (fun hn => kt hc q hq ht' ls H locs hh hP hS) (fun hn => absurd hc hn)
  · rw [if_neg hc]
    exact fun q hq ht' ls H locs hh hP hS => lv_icmp_lt hx hb hdg ht (fun hn => absurd hn hc) (fun hn => kf hc q hq ht' ls H locs hh hP hS)
theorem g_if_ge (h : CxOk Γ l rm nL ω L cc own ws) {a : Int32} {off : Int} (tgt : Nat) (hdg : decode cc pc = .ok (.ifCond .ge off, 3)) (ht : (pc : Int) + off = (tgt : Int)) (kt : 0 ≤ a → Gq Γ ω L em tgt lv st x X) (kf : ¬ 0 ≤ a → Gq Γ ω L em (pc + 3) lv st x Y) : Gq Γ ω L em pc lv (.int a :: st) x (if 0 ≤ a then X else Y) := by
  obtain ⟨p, l', e, R, s, m, args, below, meth, c, Q, A, nL', tg⟩ := Γ
  obtain ⟨-, -, hnL, hx, hb, hml, hown, hts, hK, hD, hA, hN, hZ⟩ := h
  by_cases hc : 0 ≤ a
  · rw [if_pos hc]
    exact fun q hq ht' ls H locs hh hP hS => lv_if_ge hx hb hdg ht (fun hn => kt hc q hq ht' ls H locs hh hP hS) (fun hn => absurd hc hn)
  · rw [if_neg hc]
    exact fun q hq ht' ls H locs hh hP hS => lv_if_ge hx hb hdg ht (fun hn => absurd hn hc) (fun hn => kf hc q hq ht' ls H locs hh hP hS)
theorem g_icmp_ge (h : CxOk Γ l rm nL ω L cc own ws) {a b : Int32} {off : Int} (tgt : Nat) (hdg : decode cc pc = .ok (.if_icmp .ge off, 3)) (ht : (pc : Int) + off = (tgt : Int)) (kt : b ≤ a → Gq Γ ω L em tgt lv st x X) (kf : ¬ b ≤ a → Gq Γ ω L em (pc + 3) lv st x Y) : Gq Γ ω L em pc lv (.int b :: .int a :: st) x (if b ≤ a then X else Y) := by
  obtain ⟨p, l', e, R, s, m, args, below, meth, c, Q, A, nL', tg⟩ := Γ
  obtain ⟨-, -, hnL, hx, hb, hml, hown, hts, hK, hD, hA, hN, hZ⟩ := h
  by_cases hc : b ≤ a
  · rw [if_pos hc]
    exact fun q hq ht' ls H locs hh hP hS => lv_icmp_ge hx hb hdg ht (fun hn => kt hc q hq ht' ls H locs hh hP hS) (fun hn => absurd hc hn)
  · rw [if_neg hc]
    exact fun q hq ht' ls H locs hh hP hS => lv_icmp_ge hx hb hdg ht (fun hn => absurd hn hc) (fun hn => kf hc q hq ht' ls H locs hh hP hS)
theorem g_if_gt (h : CxOk Γ l rm nL ω L cc own ws) {a : Int32} {off : Int} (tgt : Nat) (hdg : decode cc pc = .ok (.ifCond .gt off, 3)) (ht : (pc : Int) + off = (tgt : Int)) (kt : 0 < a → Gq Γ ω L em tgt lv st x X) (kf : ¬ 0 < a → Gq Γ ω L em (pc + 3) lv st x Y) : Gq Γ ω L em pc lv (.int a :: st) x (if 0 < a then X else Y) := by
  obtain ⟨p, l', e, R, s, m, args, below, meth, c, Q, A, nL', tg⟩ := Γ
  obtain ⟨-, -, hnL, hx, hb, hml, hown, hts, hK, hD, hA, hN, hZ⟩ := h
  by_cases hc : 0 < a
  · rw [if_pos hc]
    exact fun q hq ht' ls H locs hh hP hS => lv_if_gt hx hb hdg ht (fun hn => kt hc q hq ht' ls H locs hh hP hS) (fun hn => absurd hc hn)
  · rw [if_neg hc]
    exact fun q hq ht' ls H locs hh hP hS => lv_if_gt hx hb hdg ht (fun hn => absurd hn hc) (fun hn => kf hc q hq ht' ls H locs hh hP hS)
theorem g_icmp_gt (h : CxOk Γ l rm nL ω L cc own ws) {a b : Int32} {off : Int} (tgt : Nat) (hdg : decode cc pc = .ok (.if_icmp .gt off, 3)) (ht : (pc : Int) + off = (tgt : Int)) (kt : b < a → Gq Γ ω L em tgt lv st x X) (kf : ¬ b < a → Gq Γ ω L em (pc + 3) lv st x Y) : Gq Γ ω L em pc lv (.int b :: .int a :: st) x (if b < a then X else Y) := by
  obtain ⟨p, l', e, R, s, m, args, below, meth, c, Q, A, nL', tg⟩ := Γ
  obtain ⟨-, -, hnL, hx, hb, hml, hown, hts, hK, hD, hA, hN, hZ⟩ := h
  by_cases hc : b < a
  · rw [if_pos hc]
    exact fun q hq ht' ls H locs hh hP hS => lv_icmp_gt hx hb hdg ht (fun hn => kt hc q hq ht' ls H locs hh hP hS) (fun hn => absurd hc hn)
  · rw [if_neg hc]
    exact fun q hq ht' ls H locs hh hP hS => lv_icmp_gt hx hb hdg ht (fun hn => absurd hn hc) (fun hn => kf hc q hq ht' ls H locs hh hP hS)
theorem g_if_le (h : CxOk Γ l rm nL ω L cc own ws) {a : Int32} {off : Int} (tgt : Nat) (hdg : decode cc pc = .ok (.ifCond .le off, 3)) (ht : (pc : Int) + off = (tgt : Int)) (kt : a ≤ 0 → Gq Γ ω L em tgt lv st x X) (kf : ¬ a ≤ 0 → Gq Γ ω L em (pc + 3) lv st x Y) : Gq Γ ω L em pc lv (.int a :: st) x (if a ≤ 0 then X else Y) := by
  obtain ⟨p, l', e, R, s, m, args, below, meth, c, Q, A, nL', tg⟩ := Γ
  obtain ⟨-, -, hnL, hx, hb, hml, hown, hts, hK, hD, hA, hN, hZ⟩ := h
  by_cases hc : a ≤ 0
  · rw [if_pos hc]
    exact fun q hq ht' ls H locs hh hP hS => lv_if_le hx hb hdg ht (fun hn => kt hc q hq ht' ls H locs hh hP hS) (fun hn => absurd hc hn)
  · rw [if_neg hc]
    exact fun q hq ht' ls H locs hh hP hS => lv_if_le hx hb hdg ht (fun hn => absurd hn hc) (fun hn => kf hc q hq ht' ls H locs hh hP hS)
theorem g_icmp_le (h : CxOk Γ l rm nL ω L cc own ws) {a b : Int32} {off : Int} (tgt : Nat) (hdg : decode cc pc = .ok (.if_icmp .le off, 3)) (ht : (pc : Int) + off = (tgt : Int)) (kt : a ≤ b → Gq Γ ω L em tgt lv st x X) (kf : ¬ a ≤ b → Gq Γ ω L em (pc + 3) lv st x Y) : Gq Γ ω L em pc lv (.int b :: .int a :: st) x (if a ≤ b then X else Y) := by
  obtain ⟨p, l', e, R, s, m, args, below, meth, c, Q, A, nL', tg⟩ := Γ
  obtain ⟨-, -, hnL, hx, hb, hml, hown, hts, hK, hD, hA, hN, hZ⟩ := h
  by_cases hc : a ≤ b
  · rw [if_pos hc]
    exact fun q hq ht' ls H locs hh hP hS => lv_icmp_le hx hb hdg ht (fun hn => kt hc q hq ht' ls H locs hh hP hS) (fun hn => absurd hc hn)
  · rw [if_neg hc]
    exact fun q hq ht' ls H locs hh hP hS => lv_icmp_le hx hb hdg ht (fun hn => absurd hn hc) (fun hn => kf hc q hq ht' ls H locs hh hP hS)
theorem g_getR (h : CxOk Γ l rm nL ω L cc own ws) {k a ci N index j k' a' : Nat} {fs : List (Option (Nat × Nat))} {C : String} {T : u_T} (hc : inL L k a (0, ci, fs)) (hcl : vwCl[ci]? = some (C, T, N)) (hin : ∀ w ∈ u_ws C T N, w ∈ ws) (hj : j < N) (hf : fs[j]? = some (some (k', a'))) (hlink : Cond.fieldLink own index (T j).1 (T j).2.1 (T j).2.2.1 ∈ ws) (hdg : decode cc pc = .ok (.getfield index, 3))
    (kk : Gq Γ ω L em (pc + 3) lv (.ref (th ω k' a') :: st) x X) : Gq Γ ω L em pc lv (.ref (th ω k a) :: st) x X := by
  obtain ⟨p, l', e, R, s, m, args, below, meth, c, Q, A, nL', tgt⟩ := Γ
  obtain ⟨-, -, -, hx, hb, hml, hown, hts, hK, hD, hA, hN, hZ⟩ := h
  intro q hq ht ls H locs hh hP hS
  obtain ⟨p0, -, hp⟩ := wW_get (ω := ω) (M := em x) hc
  exact va_get hx hb hts hin hown hK hP p0 hp hcl j hj (hts _ hlink) (fun _ h9 => h9) (fV_get hf) hdg (kk q hq ht ls H locs hh hP hS)
theorem g_getI (h : CxOk Γ l rm nL ω L cc own ws) {k a ci N index j : Nat} {fs : List (Option (Nat × Nat))} {C : String} {T : u_T} {v : Int32} (hv : em x k a j = v) (hc : inL L k a (0, ci, fs)) (hcl : vwCl[ci]? = some (C, T, N)) (hin : ∀ w ∈ u_ws C T N, w ∈ ws) (hj : j < N) (hf : fs[j]? = some none) (hlink : Cond.fieldLink own index (T j).1 (T j).2.1 (T j).2.2.1 ∈ ws) (hdg : decode cc pc = .ok (.getfield index, 3))
    (kk : Gq Γ ω L em (pc + 3) lv (.int v :: st) x X) : Gq Γ ω L em pc lv (.ref (th ω k a) :: st) x X := by
  obtain ⟨p, l', e, R, s, m, args, below, meth, c, Q, A, nL', tgt⟩ := Γ
  obtain ⟨-, -, -, hx, hb, hml, hown, hts, hK, hD, hA, hN, hZ⟩ := h
  subst hv
  intro q hq ht ls H locs hh hP hS
  obtain ⟨p0, -, hp⟩ := wW_get (ω := ω) (M := em x) hc
  exact va_get hx hb hts hin hown hK hP p0 hp hcl j hj (hts _ hlink) (fun _ h9 => h9) (fV_geti hf) hdg (kk q hq ht ls H locs hh hP hS)
theorem g_putI (h : CxOk Γ l rm nL ω L cc own ws) {k a ci N index j : Nat} {fs : List (Option (Nat × Nat))} {C : String} {T : u_T} {ty0 : Nat → FieldType} {ty : FieldType} {v : Int32} {x' : σ} (hv : em x' = wM (em x) k a j v) (hc : inL L k a (0, ci, fs)) (hcl : vwCl[ci]? = some (C, T, N)) (hin : ∀ w ∈ u_ws C T N, w ∈ ws) (hty : ∀ k, k < N → parseFieldDescriptor (T k).2.2.1 = some (ty0 k)) (hnm : ∀ a, a < N → ∀ b, b < N → a ≠ b → (T a).2.1 ≠ (T b).2.1) (hj : j < N) (hf : fs[j]? = some none) (hlink : Cond.fieldLink own index (T j).1 (T j).2.1 (T j).2.2.1 ∈ ws) (hfin : (T j).2.2.2 = false) (hd : parseFieldDescriptor (T j).2.2.1 = some ty) (hn : narrow ty (.int v) = .int v) (hfit : fits ty (.int v) = true) (hdg : decode cc pc = .ok (.putfield index, 3))
    (kk : Gq Γ ω L em (pc + 3) lv st x' X) : Gq Γ ω L em pc lv (.int v :: .ref (th ω k a) :: st) x X := by
  obtain ⟨p, l', e, R, s, m, args, below, meth, c, Q, A, nL', tgt⟩ := Γ
  obtain ⟨-, -, -, hx, hb, hml, hown, hts, hK, hD, hA, hN, hZ⟩ := h
  intro q hq ht ls H locs hh hP hS
  obtain ⟨p0, hp0, hp⟩ := wW_get (ω := ω) (M := em x) hc
  have hl : j < (fV ω (em x k a) fs).length := by rw [fV_len]; exact (List.getElem?_eq_some_iff.mp hf).1
  refine va_put hx hb hts hin ty0 hty hnm hown hK hP (wD hD (em x)) hS p0 hp hcl j hj (hts _ hlink) (fun _ h9 => h9) hfin hd hn hfit hl hdg (fun H1 locs1 hP1 _ hS1 => ?_)
  refine kk q hq ht ls H1 locs1 hh ?_ hS1
  have e1 := wW_set (ω := ω) (M := em x) hN hc hp0 (upd (em x k a) j v) (em x') (by rw [hv, wM_at]) (fun k' a' hne => by rw [hv, wM_off _ _ _ _ _ _ _ hne])
  rw [← e1]
  rw [fV_set hf] at hP1
  exact hP1
theorem g_iald (h : CxOk Γ l rm nL ω L cc own ws) {k a n : Nat} {fs : List (Option (Nat × Nat))} {i v : Int32} (hv : em x k a i.toNatClampNeg = v) (hc : inL L k a (1, n, fs)) (hdg : decode cc pc = .ok (.iaload, 1))
    (kk : Gq Γ ω L em (pc + 1) lv (.int v :: st) x X) : Gq Γ ω L em pc lv (.int i :: .ref (th ω k a) :: st) x (gd (ib i n) X) := by
  refine g_gd (fun hi => ?_)
  obtain ⟨p, l', e, R, s, m, args, below, meth, c, Q, A, nL', tgt⟩ := Γ
  obtain ⟨-, -, -, hx, hb, hml, hown, hts, hK, hD, hA, hN, hZ⟩ := h
  subst hv
  intro q hq ht ls H locs hh hP hS
  obtain ⟨p0, hp0, hp⟩ := wW_get (ω := ω) (M := em x) hc
  exact va_iald hx hb hK hP p0 0 hp rfl (ib_in hi) hdg (kk q hq ht ls H locs hh hP hS)
theorem g_cald (h : CxOk Γ l rm nL ω L cc own ws) {k a n : Nat} {fs : List (Option (Nat × Nat))} {i v : Int32} (hv : em x k a i.toNatClampNeg = v) (hc : inL L k a (2, n, fs)) (hdg : decode cc pc = .ok (.caload, 1))
    (kk : Gq Γ ω L em (pc + 1) lv (.int v :: st) x X) : Gq Γ ω L em pc lv (.int i :: .ref (th ω k a) :: st) x (gd (ib i n) X) := by
  refine g_gd (fun hi => ?_)
  obtain ⟨p, l', e, R, s, m, args, below, meth, c, Q, A, nL', tgt⟩ := Γ
  obtain ⟨-, -, -, hx, hb, hml, hown, hts, hK, hD, hA, hN, hZ⟩ := h
  subst hv
  intro q hq ht ls H locs hh hP hS
  obtain ⟨p0, hp0, hp⟩ := wW_get (ω := ω) (M := em x) hc
  exact va_cald hx hb hK hP p0 1 hp rfl (ib_in hi) hdg (kk q hq ht ls H locs hh hP hS)
theorem g_aald (h : CxOk Γ l rm nL ω L cc own ws) {k a n : Nat} {fs : List (Option (Nat × Nat))} {i v : Int32} (hv : em x k a i.toNatClampNeg = v) (hc : inL L k a (3, n, fs)) (hdg : decode cc pc = .ok (.aaload, 1))
    (kk : Gq Γ ω L em (pc + 1) lv (.ref (th ω v.toNatClampNeg 0) :: st) x X) : Gq Γ ω L em pc lv (.int i :: .ref (th ω k a) :: st) x (gd (ib i n) X) := by
  refine g_gd (fun hi => ?_)
  obtain ⟨p, l', e, R, s, m, args, below, meth, c, Q, A, nL', tgt⟩ := Γ
  obtain ⟨-, -, -, hx, hb, hml, hown, hts, hK, hD, hA, hN, hZ⟩ := h
  subst hv
  intro q hq ht ls H locs hh hP hS
  obtain ⟨p0, hp0, hp⟩ := wW_get (ω := ω) (M := em x) hc
  exact va_aldq (C := RX4) (f := fun j => some (th ω (em x k a j).toNatClampNeg 0)) hx hb hK hP p0 2 hp rfl (ib_in hi) hdg (kk q hq ht ls H locs hh hP hS)
theorem g_iast (h : CxOk Γ l rm nL ω L cc own ws) {k a n : Nat} {fs : List (Option (Nat × Nat))} {i v : Int32} {x' : σ} (hv : em x' = wM (em x) k a i.toNatClampNeg v) (hc : inL L k a (1, n, fs)) (hdg : decode cc pc = .ok (.iastore, 1))
    (kk : Gq Γ ω L em (pc + 1) lv st x' X) : Gq Γ ω L em pc lv (.int v :: .int i :: .ref (th ω k a) :: st) x (gd (ib i n) X) := by
  refine g_gd (fun hi => ?_)
  obtain ⟨p, l', e, R, s, m, args, below, meth, c, Q, A, nL', tgt⟩ := Γ
  obtain ⟨-, -, -, hx, hb, hml, hown, hts, hK, hD, hA, hN, hZ⟩ := h
  intro q hq ht ls H locs hh hP hS
  obtain ⟨p0, hp0, hp⟩ := wW_get (ω := ω) (M := em x) hc
  refine va_iast hx hb hK hP (wD hD (em x)) hS p0 0 hp rfl (ib_in hi) hdg (fun H1 locs1 hP1 _ hS1 => ?_)
  refine kk q hq ht ls H1 locs1 hh ?_ hS1
  have e1 := wW_set (ω := ω) (M := em x) hN hc hp0 (upd (em x k a) i.toNatClampNeg v) (em x') (by rw [hv, wM_at]) (fun k' a' hne => by rw [hv, wM_off _ _ _ _ _ _ _ hne])
  rw [← e1]
  exact hP1
theorem g_cast (h : CxOk Γ l rm nL ω L cc own ws) {k a n : Nat} {fs : List (Option (Nat × Nat))} {i v : Int32} {x' : σ} (hv : em x' = wM (em x) k a i.toNatClampNeg (vp_nar .char v)) (hc : inL L k a (2, n, fs)) (hdg : decode cc pc = .ok (.castore, 1))
    (kk : Gq Γ ω L em (pc + 1) lv st x' X) : Gq Γ ω L em pc lv (.int v :: .int i :: .ref (th ω k a) :: st) x (gd (ib i n) X) := by
  refine g_gd (fun hi => ?_)
  obtain ⟨p, l', e, R, s, m, args, below, meth, c, Q, A, nL', tgt⟩ := Γ
  obtain ⟨-, -, -, hx, hb, hml, hown, hts, hK, hD, hA, hN, hZ⟩ := h
  intro q hq ht ls H locs hh hP hS
  obtain ⟨p0, hp0, hp⟩ := wW_get (ω := ω) (M := em x) hc
  refine va_cast hx hb hK hP (wD hD (em x)) hS p0 1 hp rfl (ib_in hi) hdg (fun H1 locs1 hP1 _ hS1 => ?_)
  refine kk q hq ht ls H1 locs1 hh ?_ hS1
  have e1 := wW_set (ω := ω) (M := em x) hN hc hp0 (upd (em x k a) i.toNatClampNeg (vp_nar .char v)) (em x') (by rw [hv, wM_at]) (fun k' a' hne => by rw [hv, wM_off _ _ _ _ _ _ _ hne])
  rw [← e1]
  exact hP1
theorem g_aast (h : CxOk Γ l rm nL ω L cc own ws) {k a n : Nat} {fs fs' : List (Option (Nat × Nat))} {i v : Int32} {x' : σ} (hv : em x' = wM (em x) k a i.toNatClampNeg v) (hc : inL L k a (3, n, fs)) (hs : inL L v.toNatClampNeg 0 (0, 4, fs')) (hdg : decode cc pc = .ok (.aastore, 1))
    (kk : Gq Γ ω L em (pc + 1) lv st x' X) : Gq Γ ω L em pc lv (.ref (th ω v.toNatClampNeg 0) :: .int i :: .ref (th ω k a) :: st) x (gd (ib i n) X) := by
  refine g_gd (fun hi => ?_)
  obtain ⟨p, l', e, R, s, m, args, below, meth, c, Q, A, nL', tgt⟩ := Γ
  obtain ⟨-, -, -, hx, hb, hml, hown, hts, hK, hD, hA, hN, hZ⟩ := h
  intro q hq ht ls H locs hh hP hS
  obtain ⟨p0, hp0, hp⟩ := wW_get (ω := ω) (M := em x) hc
  obtain ⟨p1, hp1, hp2⟩ := wW_get (ω := ω) (M := em x) hs
  refine va_astq (r := (RX4, TX4, 13)) (f := fun j => some (th ω (em x k a j).toNatClampNeg 0)) hx hb hK hP (wD hD (em x)) hS p0 2 p1 4 hp rfl hp2 rfl (ib_in hi) hdg (fun H1 locs1 hP1 _ hS1 => ?_)
  refine kk q hq ht ls H1 locs1 hh ?_ hS1
  have e1 := wW_set (ω := ω) (M := em x) hN hc hp0 (upd (em x k a) i.toNatClampNeg v) (em x') (by rw [hv, wM_at]) (fun k' a' hne => by rw [hv, wM_off _ _ _ _ _ _ _ hne])
  rw [← e1]
  have e2 : va_up (fun j => some (th ω (em x k a j).toNatClampNeg 0)) i.toNatClampNeg (some (th ω v.toNatClampNeg 0)) = (fun j => some (th ω (upd (em x k a) i.toNatClampNeg v j).toNatClampNeg 0)) := by
    funext j
    by_cases hj : j = i.toNatClampNeg
    · simp [va_up, upd, hj]
    · simp [va_up, upd, hj]
  rw [e2] at hP1
  exact hP1
theorem g_min (h : CxOk Γ l rm nL ω L cc own ws) {index : Nat} {a b : Int32} (hlink : Cond.methodLink own index Lib.Math.min.name ∈ ws) (hstat : Cond.static Lib.Math.min.name ∈ ws) (hini : Cond.initialized "java/lang/Math" ∈ ws) (hcode : Cond.code Lib.Math.min.name Lib.Math.min.code 2 (some .int) ∈ ws) (hfr : 1 ≤ rm.frames) (hlo : (st.map fun v => v.category).sum + 13 ≤ rm.locals) (hdg : decode cc pc = .ok (.invokestatic index, 3))
    (kk : Gq Γ ω L em (pc + 3) lv (.int (mn a b) :: st) x X) : Gq Γ ω L em pc lv (.int b :: .int a :: st) x X := by
  obtain ⟨p, l', e, R, s, m, args, below, meth, c, Q, A, nL', tgt⟩ := Γ
  obtain ⟨-, hR, -, hx, hb, hml, hown, hts, hK, hD, hA, hN, hZ⟩ := h
  subst hR
  intro q hq ht ls H locs hh hP hS
  exact va_mmin hx hb (hml.trans hh.1.symm) hown (hts _ hlink) (hts _ hstat) (hts _ hini) (hts _ hcode) hfr hlo (Nat.zero_le _) (Nat.zero_le _) hdg (kk q hq ht ls H locs hh hP hS)
theorem g_max (h : CxOk Γ l rm nL ω L cc own ws) {index : Nat} {a b : Int32} (hlink : Cond.methodLink own index Lib.Math.max.name ∈ ws) (hstat : Cond.static Lib.Math.max.name ∈ ws) (hini : Cond.initialized "java/lang/Math" ∈ ws) (hcode : Cond.code Lib.Math.max.name Lib.Math.max.code 2 (some .int) ∈ ws) (hfr : 1 ≤ rm.frames) (hlo : (st.map fun v => v.category).sum + 13 ≤ rm.locals) (hdg : decode cc pc = .ok (.invokestatic index, 3))
    (kk : Gq Γ ω L em (pc + 3) lv (.int (mx a b) :: st) x X) : Gq Γ ω L em pc lv (.int b :: .int a :: st) x X := by
  obtain ⟨p, l', e, R, s, m, args, below, meth, c, Q, A, nL', tgt⟩ := Γ
  obtain ⟨-, hR, -, hx, hb, hml, hown, hts, hK, hD, hA, hN, hZ⟩ := h
  subst hR
  intro q hq ht ls H locs hh hP hS
  exact va_mmax hx hb (hml.trans hh.1.symm) hown (hts _ hlink) (hts _ hstat) (hts _ hini) (hts _ hcode) hfr hlo (Nat.zero_le _) (Nat.zero_le _) hdg (kk q hq ht ls H locs hh hP hS)
/-- System.arraycopy between int rows of the world, from 0 to 0 -/
theorem g_copy (h : CxOk Γ l rm nL ω L cc own ws) {index k a k1 a1 n n1 : Nat} {fs fs1 : List (Option (Nat × Nat))} {w : Int32} {x' : σ} (hv : em x' = uM (em x) k1 (cT (em x k1) a1 (em x k a) w.toNatClampNeg)) (hc : inL L k a (1, n, fs)) (hc1 : inL L k1 a1 (1, n1, fs1)) (hw : ¬ w < 0) (h1 : w.toNatClampNeg ≤ n) (h2 : w.toNatClampNeg ≤ n1)
    (hlink : Cond.methodLink own index arraycopyName ∈ ws) (hnat : Cond.native arraycopyName ∈ ws) (hstat : Cond.static arraycopyName ∈ ws) (hini : Cond.initialized "java/lang/System" ∈ ws) (hfr : 1 ≤ rm.frames) (hlo : (st.map fun v => v.category).sum + (nativeFrameWords "java/lang/System" "arraycopy" 5 + 11) ≤ rm.locals) (hdg : decode cc pc = .ok (.invokestatic index, 3))
    (kk : Gq Γ ω L em (pc + 3) lv st x' X) : Gq Γ ω L em pc lv (.int w :: .int 0 :: .ref (th ω k1 a1) :: .int 0 :: .ref (th ω k a) :: st) x X := by
  obtain ⟨p, l', e, R, s, m, args, below, meth, c, Q, A, nL', tgt⟩ := Γ
  obtain ⟨-, hR, -, hx, hb, hml, hown, hts, hK, hD, hA, hN, hZ⟩ := h
  subst hR
  intro q hq ht ls H locs hh hP hS
  obtain ⟨p0, hp0, hp⟩ := wW_get (ω := ω) (M := em x) hc
  obtain ⟨p1, hp1, hp2⟩ := wW_get (ω := ω) (M := em x) hc1
  refine va_copyi hx hb (hml.trans hh.1.symm) hown (hts _ hlink) (hts _ hnat) (hts _ hstat) (hts _ hini) hK hP (wD hD (em x)) hS p0 p1 0 0 hp hp2 rfl rfl rfl (by decide) (by decide) hw (by have e0 : (0 : Int32).toNatClampNeg = 0 := (by decide);  rw [e0, Nat.zero_add]; exact h1) (by have e0 : (0 : Int32).toNatClampNeg = 0 := (by decide);                                             rw [e0, Nat.zero_add]; exact h2) (fun _ _ => rfl) hfr hlo hdg (fun H1 locs1 hP1 _ hS1 => ?_)
  refine kk q hq ht ls H1 locs1 hh ?_ hS1
  have e1 := wW_set (ω := ω) (M := em x) hN hc1 hp1 (va_cpy (em x k a) (em x k1 a1) 0 0 w.toNatClampNeg) (em x') (by rw [hv, uM_same, cT_same]) (fun k' a' hne => by
    rw [hv]
    by_cases hk : k' = k1
    · subst hk
      rw [uM_same, cT_ne _ _ _ (fun e => hne ⟨rfl, e⟩)]
    · rw [uM_ne _ _ _ hk])
  rw [← e1]
  exact hP1
/-- ends of a method -/
theorem g_iret {ty : FieldType} (hR : RetI Γ ω L cc ty) {r : Int32} (hn : narrow ty (.int r) = .int r) (hdg : decode cc pc = .ok (.ireturn, 1)) : Gq Γ ω L em pc lv [.int r] x (some (r, x)) := by
  intro q hq ht ls H locs hh hP hS
  cases hq
  have e1 : r = (gT Γ).1 := by rw [ht]
  have e2 : em x = (gT Γ).2 := by rw [ht]
  subst e1
  rw [e2] at hP
  exact hR pc ls H locs hdg hn hP hS
theorem g_nret {ty : FieldType} (hR : RetI Γ ω L cc ty) {r : Int32} (hty : ∀ v, narrow ty (.int v) = .int (vp_nar ty v)) (hdg : decode cc pc = .ok (.ireturn, 1)) : Gq Γ ω L em pc lv [.int r] x (gd (nb ty r) (some (r, x))) := by
  refine g_gd (fun hb => ?_)
  exact g_iret hR (by rw [hty, of_decide_eq_true hb]) hdg
theorem g_vret (hR : RetV Γ ω L cc) {r : Int32} (hdg : decode cc pc = .ok (.return_, 1)) : Gq Γ ω L em pc lv [] x (some (r, x)) := by
  intro q hq ht ls H locs hh hP hS
  cases hq
  have e2 : em x = (gT Γ).2 := by rw [ht]
  rw [e2] at hP
  exact hR pc ls H locs hdg hP hS
theorem g_fret (hR : RetF Γ ω L cc) {r : UInt32} (hdg : decode cc pc = .ok (.freturn, 1)) : Gq Γ ω L em pc lv [.float r] x (some (r.toInt32, x)) := by
  intro q hq ht ls H locs hh hP hS
  cases hq
  have e1 : r = (gT Γ).1.toUInt32 := by rw [ht]; simp
  have e2 : em x = (gT Γ).2 := by rw [ht]
  subst e1
  rw [e2] at hP
  exact hR pc ls H locs hdg hP hS
theorem g_tsIn (h : CxOk Γ l rm nL ω L cc own ws) {dflt lo hi : Int} {offs : Array Int} {len : Nat} {a : Int32} (b : Int32) {off : Int} (tgt : Nat) (hab : a = b) (hdg : decode cc pc = .ok (.tableswitch dflt lo hi offs, len)) (h1 : ¬ b.toInt < lo) (h2 : ¬ hi < b.toInt) (ho : offs[(b.toInt - lo).toNat]? = some off) (ht : (pc : Int) + off = (tgt : Int)) (kk : Gq Γ ω L em tgt lv st x X) : Gq Γ ω L em pc lv (.int a :: st) x X := by
  obtain ⟨p, l', e, R, s, m, args, below, meth, c, Q, A, nL', tg⟩ := Γ
  obtain ⟨-, -, -, hx, hb, hml, hown, hts, hK, hD, hA, hN, hZ⟩ := h
  subst hab
  exact fun q hq ht' ls H locs hh hP hS => lv_tableIn hx hb hdg h1 h2 ho ht (kk q hq ht' ls H locs hh hP hS)
theorem g_tsOut (h : CxOk Γ l rm nL ω L cc own ws) {dflt lo hi : Int} {offs : Array Int} {len : Nat} {a : Int32} (tgt : Nat) (hout : a.toInt < lo ∨ hi < a.toInt) (hdg : decode cc pc = .ok (.tableswitch dflt lo hi offs, len)) (ht : (pc : Int) + dflt = (tgt : Int)) (kk : Gq Γ ω L em tgt lv st x X) : Gq Γ ω L em pc lv (.int a :: st) x X := by
  obtain ⟨p, l', e, R, s, m, args, below, meth, c, Q, A, nL', tg⟩ := Γ
  obtain ⟨-, -, -, hx, hb, hml, hown, hts, hK, hD, hA, hN, hZ⟩ := h
  exact fun q hq ht' ls H locs hh hP hS => lv_tableOut hx hb hdg hout ht (kk q hq ht' ls H locs hh hP hS)
theorem g_lsw (h : CxOk Γ l rm nL ω L cc own ws) {dflt : Int} {ps : Array (Int × Int)} {len : Nat} {a : Int32} {off : Int} (tgt : Nat) (hdg : decode cc pc = .ok (.lookupswitch dflt ps, len)) (hp : (ps.toList.zip (ps.toList.drop 1)).all (fun (a, next) => a.1 < next.1) = true) (ho : Op.lookupswitch.offset ps.toList dflt a.toInt = off) (ht : (pc : Int) + off = (tgt : Int)) (kk : Gq Γ ω L em tgt lv st x X) : Gq Γ ω L em pc lv (.int a :: st) x X := by
  obtain ⟨p, l', e, R, s, m, args, below, meth, c, Q, A, nL', tg⟩ := Γ
  obtain ⟨-, -, -, hx, hb, hml, hown, hts, hK, hD, hA, hN, hZ⟩ := h
  exact fun q hq ht' ls H locs hh hP hS => lv_lookup hx hb hdg hp ho ht (kk q hq ht' ls H locs hh hP hS)
theorem g_ldc (h : CxOk Γ l rm nL ω L cc own ws) {index : Nat} (v : Int32) (hdg : decode cc pc = .ok (.ldc index, 2)) (hc : Cond.constant own index v ∈ ws) (kk : Gq Γ ω L em (pc + 2) lv (.int v :: st) x X) : Gq Γ ω L em pc lv st x X := by
  obtain ⟨p, l', e, R, s, m, args, below, meth, c, Q, A, nL', tg⟩ := Γ
  obtain ⟨-, -, -, hx, hb, hml, hown, hts, hK, hD, hA, hN, hZ⟩ := h
  exact fun q hq ht' ls H locs hh hP hS => lv_ldc hx hb hown (hts _ hc) hdg (kk q hq ht' ls H locs hh hP hS)
end ROWS
/-! CONTRACTS -/
def PreW (ω : Wd) (L : Ly) (av : List Value) (M : Mm) (sz : Nat) : Array Value → State → Prop := va_Pc av (fun U => U.heap.size = sz ∧ va_P ω.1 vwCl (wW ω L M) U.heap ∧ va_K ω.1 vwCl (tyW ω) U ∧ Apart ω L ∧ Nst U)
def PostI (ω : Wd) (L : Ly) (r : Int32) (M : Mm) (sz : Nat) : Array Value → State → Outcome → State → Prop := va_Qi (fun (q : Int32) (_ : Unit) => q = r) (fun _ t => va_P ω.1 vwCl (wW ω L M) t.heap) (aW ω L sz)
def PostV (ω : Wd) (L : Ly) (M : Mm) (sz : Nat) : Array Value → State → Outcome → State → Prop := va_Qv (fun (_ : Unit) => True) (fun _ t => va_P ω.1 vwCl (wW ω L M) t.heap) (aW ω L sz)
def PostF (ω : Wd) (L : Ly) (r : Int32) (M : Mm) (sz : Nat) : Array Value → State → Outcome → State → Prop := va_Qf (fun (q : UInt32) (_ : Unit) => q = r.toUInt32) (fun _ t => va_P ω.1 vwCl (wW ω L M) t.heap) (aW ω L sz)
def MI (l : Launch) (y : MethodName) (ws : List Cond) (rm : Room) (ω : Wd) (L : Ly) (av : List Value) (M : Mm) (r : Int32) (M' : Mm) : Prop := ∀ sz : Nat, Met l y ws rm (PreW ω L av M sz) (PostI ω L r M' sz) 0 0 (aW ω L sz)
def MV (l : Launch) (y : MethodName) (ws : List Cond) (rm : Room) (ω : Wd) (L : Ly) (av : List Value) (M : Mm) (M' : Mm) : Prop := ∀ sz : Nat, Met l y ws rm (PreW ω L av M sz) (PostV ω L M' sz) 0 0 (aW ω L sz)
def MF (l : Launch) (y : MethodName) (ws : List Cond) (rm : Room) (ω : Wd) (L : Ly) (av : List Value) (M : Mm) (r : Int32) (M' : Mm) : Prop := ∀ sz : Nat, Met l y ws rm (PreW ω L av M sz) (PostF ω L r M' sz) 0 0 (aW ω L sz)
theorem PreW_blind {ω : Wd} {L : Ly} {av : List Value} {M : Mm} {sz : Nat} : FrameBlind (PreW ω L av M sz) := fun a U g mk q => by
  obtain ⟨q0, q1, qP, qK, qD, qZ⟩ := q
  exact ⟨q0, q1, qP, va_K.moved (u := U) (U := U.calling g mk a) (Vm.Alike.refl U.vm) qK, qD, va_Nw.same rfl rfl qZ⟩
theorem aW_S {ω : Wd} {L : Ly} {A : Nat → Prop} {H0 H : Heap} {locs : List Loc} (hD : ∀ q ∈ L.1, A (th ω q.1 q.2)) (hA : ∀ q, H0.size ≤ q → A q) (hS : va_S A H0 H locs) : ∀ q, aW ω L H.size q → A q := by
  intro q h
  rcases h with ⟨i, hi, rfl⟩ | h
  · exact hD i hi
  · exact hA q (Nat.le_trans hS.1 h)
section ENTRY
variable {l : Launch} {y : MethodName} {ws ws' : List Cond} {rm : Room} {cc : ByteArray} {maxL : Nat} {ty : FieldType} {ω : Wd} {L : Ly} {av : List Value} {M M' : Mm} {r : Int32}
set_option maxHeartbeats 4000000 in
theorem met_i (hy : plainName y.cls = true) (hw : ws = Cond.code y cc maxL (some ty) :: ws') (hav : (lg_sl av).length ≤ maxL) (hN : L.1.Nodup)
    (body : ∀ Γ : Cx, CxOk Γ l rm maxL ω L cc y.cls ws → RetI Γ ω L cc ty → gT Γ = (r, M') → Vr Γ ω L 0 (lv_args 0 av) [] M) : MI l y ws rm ω L av M r M' := by
  intro sz
  refine Met.ofW (cc := cc) (maxL := maxL) (ret := some ty) hy hw ?_
  intro p e s m args below meth c s₁ B hml hv
  obtain ⟨rfl, hsz, hP, hK, hD, hZ⟩ := hv
  subst hsz
  have hts := atoms_spec (ws := ws) B.pre
  have hlocks := B.notSynchronized
  have hl := lv_entry av (n := maxL) hav
  rw [lg_entry_eq]
  refine body (p, l, e, rm, s, m, av.toArray, below, meth, c, MQ below (PostI ω L r M' s.heap.size) av.toArray s 0 0 (aW ω L s.heap.size), aW ω L s.heap.size, maxL, (r, M')) ⟨rfl, rfl, rfl, B.exec, B.bytes, hml, findClass_of_methodNamed B.named, hts, hK, ⟨hD, fun q hq => Or.inl ⟨q, hq, rfl⟩⟩, fun q hq => Or.inr hq, hN, hZ⟩ ?_ rfl _ s.heap [] hl hP va_S.rf
  intro pc ls H locs hdg hn hP1 hS1
  exact W.zret B.exec B.bytes B.returns hn (fun t ht hW => ⟨⟨r, (), rfl, rfl, by show va_P _ _ _ t.heap; rw [ht]; exact hP1⟩, hS1.F ht⟩) hS1.2.2 hdg hlocks
set_option maxHeartbeats 4000000 in
theorem met_v (hy : plainName y.cls = true) (hw : ws = Cond.code y cc maxL none :: ws') (hav : (lg_sl av).length ≤ maxL) (hN : L.1.Nodup)
    (body : ∀ Γ : Cx, CxOk Γ l rm maxL ω L cc y.cls ws → RetV Γ ω L cc → gT Γ = (r, M') → Vr Γ ω L 0 (lv_args 0 av) [] M) : MV l y ws rm ω L av M M' := by
  intro sz
  refine Met.ofW (cc := cc) (maxL := maxL) (ret := none) hy hw ?_
  intro p e s m args below meth c s₁ B hml hv
  obtain ⟨rfl, hsz, hP, hK, hD, hZ⟩ := hv
  subst hsz
  have hts := atoms_spec (ws := ws) B.pre
  have hlocks := B.notSynchronized
  have hl := lv_entry av (n := maxL) hav
  rw [lg_entry_eq]
  refine body (p, l, e, rm, s, m, av.toArray, below, meth, c, MQ below (PostV ω L M' s.heap.size) av.toArray s 0 0 (aW ω L s.heap.size), aW ω L s.heap.size, maxL, (r, M')) ⟨rfl, rfl, rfl, B.exec, B.bytes, hml, findClass_of_methodNamed B.named, hts, hK, ⟨hD, fun q hq => Or.inl ⟨q, hq, rfl⟩⟩, fun q hq => Or.inr hq, hN, hZ⟩ ?_ rfl _ s.heap [] hl hP va_S.rf
  intro pc ls H locs hdg hP1 hS1
  exact W.vret B.exec B.bytes B.returns (fun t ht hW => ⟨⟨(), rfl, trivial, by show va_P _ _ _ t.heap; rw [ht]; exact hP1⟩, hS1.F ht⟩) hS1.2.2 hdg hlocks
set_option maxHeartbeats 4000000 in
theorem met_f (hy : plainName y.cls = true) (hw : ws = Cond.code y cc maxL (some .float) :: ws') (hav : (lg_sl av).length ≤ maxL) (hN : L.1.Nodup)
    (body : ∀ Γ : Cx, CxOk Γ l rm maxL ω L cc y.cls ws → RetF Γ ω L cc → gT Γ = (r, M') → Vr Γ ω L 0 (lv_args 0 av) [] M) : MF l y ws rm ω L av M r M' := by
  intro sz
  refine Met.ofW (cc := cc) (maxL := maxL) (ret := some .float) hy hw ?_
  intro p e s m args below meth c s₁ B hml hv
  obtain ⟨rfl, hsz, hP, hK, hD, hZ⟩ := hv
  subst hsz
  have hts := atoms_spec (ws := ws) B.pre
  have hlocks := B.notSynchronized
  have hl := lv_entry av (n := maxL) hav
  rw [lg_entry_eq]
  refine body (p, l, e, rm, s, m, av.toArray, below, meth, c, MQ below (PostF ω L r M' s.heap.size) av.toArray s 0 0 (aW ω L s.heap.size), aW ω L s.heap.size, maxL, (r, M')) ⟨rfl, rfl, rfl, B.exec, B.bytes, hml, findClass_of_methodNamed B.named, hts, hK, ⟨hD, fun q hq => Or.inl ⟨q, hq, rfl⟩⟩, fun q hq => Or.inr hq, hN, hZ⟩ ?_ rfl _ s.heap [] hl hP va_S.rf
  intro pc ls H locs hdg hP1 hS1
  exact W.fret B.exec B.bytes B.returns (fun t ht hW => ⟨⟨_, (), rfl, rfl, by show va_P _ _ _ t.heap; rw [ht]; exact hP1⟩, hS1.F ht⟩) hS1.2.2 hdg hlocks
end ENTRY
section CALLS
variable {σ τ : Type} {Γ : Cx} {l : Launch} {rm : Room} {nL : Nat} {ω : Wd} {L : Ly} {cc : ByteArray} {own : String} {ws : List Cond} {em : σ → Mm} {pc : Nat} {lv : List (Nat × Value)} {st : List Value} {x : σ} {X Y : Option (Int32 × σ)}
set_option maxHeartbeats 4000000 in
/-- a method of an object that answers an int -/
theorem g_callI (h : CxOk Γ l rm nL ω L cc own ws) {C : String} {T : u_T} {N ci k a index maxL : Nat} {ty : FieldType} {fs : List (Option (Nat × Nat))} {y : MethodName} {ws2 ws2' : List Cond} {rm2 : Room} {bytes : ByteArray} {As : List Value} {G : Option (Int32 × τ)} {F : Int32 → τ → Option (Int32 × σ)} (up : τ → σ)
    (hM : ∀ r t, G = some (r, t) → MI l y ws2 rm2 ω L (.ref (th ω k a) :: As) (em x) r (em (up t))) (hc : inL L k a (0, ci, fs)) (hcl : vwCl[ci]? = some (C, T, N)) (n : Nat) (hn : As.length = n) (hT : GoodIn ws (wsV own index C y ws2)) (hw : ws2 = Cond.code y bytes maxL (some ty) :: ws2') (hrc : rm2.cells = 0) (hrs : rm2.slots = 0)
    (hd : y.cls = C ∧ y.cls ≠ "java/lang/invoke/MethodHandle" ∧ y.cls ≠ "java/lang/invoke/VarHandle" ∧ (parseMethodDescriptor y.desc).map (fun d => d.parameters.length) = some n) (hRm : rm2.frames + 1 ≤ rm.frames ∧ 8 + (maxL + 11) + rm2.locals ≤ rm.locals) {st0 : List Value} (hst : st0 = As.reverse ++ .ref (th ω k a) :: st) (hsum : (st.map fun v => v.category).sum ≤ 8) (hdg : decode cc pc = .ok (.invokevirtual index, 3))
    (kk : ∀ r t, Gq Γ ω L em (pc + 3) lv (.int r :: st) (up t) (F r t)) : Gq Γ ω L em pc lv st0 x (bnd G F) := by
  intro q hq ht
  obtain ⟨r0, t0, hG, hF⟩ := bnd_some hq
  have hM0 := hM r0 t0 hG
  have kk0 := kk r0 t0 q hF ht
  obtain ⟨p, l', e, R, s, m, args, below, meth, c, Q, A, nL', tgt⟩ := Γ
  obtain ⟨hll, hR, hnL, hx, hb, hml, hown, hts, hK, hD, hA, hN, hZ⟩ := h
  subst hll; subst hR; subst hnL
  intro ls H locs hh hP hS
  obtain ⟨p0, hp0, hp⟩ := wW_get (ω := ω) (M := em x) hc
  refine va_calli (va_runV (As := As) (rest := st) ⟨hx, hb, hml, hown, hts⟩ (hM0 H.size) (cwV n hts hT hw hrc hrs hd hRm) ⟨PreW_blind, va_recv hK hP hcl hp, fun U hU hW => ⟨rfl, by rw [hU], by rw [hU]; exact hP, va_K.moved hW.alike hK, hD.1, va_Nw.warmM hW hZ⟩⟩ rfl hn hh.1 hst (lv_room hsum) hdg ⟨Nat.zero_le _, Nat.zero_le _⟩) hS (fun q _ h => aW_S hD.2 hA hS q h) (aW_S hD.2 hA hS) (fun r u t H1 locs1 ht1 hvm hw hB hz1 hk1 hS1 => ?_)
  subst hw
  rw [ht1] at hB
  exact kk0 ls H1 locs1 hh hB hS1
set_option maxHeartbeats 4000000 in
/-- a method of an object that answers nothing -/
theorem g_callV (h : CxOk Γ l rm nL ω L cc own ws) {C : String} {T : u_T} {N ci k a index maxL : Nat} {fs : List (Option (Nat × Nat))} {y : MethodName} {ws2 ws2' : List Cond} {rm2 : Room} {bytes : ByteArray} {As : List Value} {G : Option (Int32 × τ)} {F : Int32 → τ → Option (Int32 × σ)} (up : τ → σ)
    (hM : ∀ r t, G = some (r, t) → MV l y ws2 rm2 ω L (.ref (th ω k a) :: As) (em x) (em (up t))) (hc : inL L k a (0, ci, fs)) (hcl : vwCl[ci]? = some (C, T, N)) (n : Nat) (hn : As.length = n) (hT : GoodIn ws (wsV own index C y ws2)) (hw : ws2 = Cond.code y bytes maxL none :: ws2') (hrc : rm2.cells = 0) (hrs : rm2.slots = 0)
    (hd : y.cls = C ∧ y.cls ≠ "java/lang/invoke/MethodHandle" ∧ y.cls ≠ "java/lang/invoke/VarHandle" ∧ (parseMethodDescriptor y.desc).map (fun d => d.parameters.length) = some n) (hRm : rm2.frames + 1 ≤ rm.frames ∧ 8 + (maxL + 11) + rm2.locals ≤ rm.locals) {st0 : List Value} (hst : st0 = As.reverse ++ .ref (th ω k a) :: st) (hsum : (st.map fun v => v.category).sum ≤ 8) (hdg : decode cc pc = .ok (.invokevirtual index, 3))
    (kk : ∀ r t, Gq Γ ω L em (pc + 3) lv st (up t) (F r t)) : Gq Γ ω L em pc lv st0 x (bnd G F) := by
  intro q hq ht
  obtain ⟨r0, t0, hG, hF⟩ := bnd_some hq
  have hM0 := hM r0 t0 hG
  have kk0 := kk r0 t0 q hF ht
  obtain ⟨p, l', e, R, s, m, args, below, meth, c, Q, A, nL', tgt⟩ := Γ
  obtain ⟨hll, hR, hnL, hx, hb, hml, hown, hts, hK, hD, hA, hN, hZ⟩ := h
  subst hll; subst hR; subst hnL
  intro ls H locs hh hP hS
  obtain ⟨p0, hp0, hp⟩ := wW_get (ω := ω) (M := em x) hc
  refine va_callv (va_runV (As := As) (rest := st) ⟨hx, hb, hml, hown, hts⟩ (hM0 H.size) (cwV n hts hT hw hrc hrs hd hRm) ⟨PreW_blind, va_recv hK hP hcl hp, fun U hU hW => ⟨rfl, by rw [hU], by rw [hU]; exact hP, va_K.moved hW.alike hK, hD.1, va_Nw.warmM hW hZ⟩⟩ rfl hn hh.1 hst (lv_room hsum) hdg ⟨Nat.zero_le _, Nat.zero_le _⟩) hS (fun q _ h => aW_S hD.2 hA hS q h) (aW_S hD.2 hA hS) (fun u t H1 locs1 ht1 hvm hw hB hz1 hk1 hS1 => ?_)
  rw [ht1] at hB
  exact kk0 ls H1 locs1 hh hB hS1
set_option maxHeartbeats 4000000 in
/-- a static method of numbers alone -/
theorem g_callP (h : CxOk Γ l rm nL ω L cc own ws) {index maxL : Nat} {ty : FieldType} {y : MethodName} {ws2 ws2' : List Cond} {rm2 : Room} {bytes : ByteArray} {As : List Value} {G : Option (Int32 × Mm)} {F : Int32 → Option (Int32 × σ)}
    (hM : ∀ r t, G = some (r, t) → MI l y ws2 rm2 ω L00 As M00 r t) (n : Nat) (hn : As.length = n) (hT : GoodIn ws (va_wsS own index y ws2)) (hw : ws2 = Cond.code y bytes maxL (some ty) :: ws2') (hrc : rm2.cells = 0) (hrs : rm2.slots = 0)
    (hd : y.cls ≠ "java/lang/invoke/MethodHandle" ∧ y.cls ≠ "java/lang/invoke/VarHandle" ∧ (parseMethodDescriptor y.desc).map (fun d => d.parameters.length) = some n) (hRm : rm2.frames + 1 ≤ rm.frames ∧ 8 + (maxL + 11) + rm2.locals ≤ rm.locals) {st0 : List Value} (hst : st0 = As.reverse ++ st) (hsum : (st.map fun v => v.category).sum ≤ 8) (hdg : decode cc pc = .ok (.invokestatic index, 3))
    (kk : ∀ r, Gq Γ ω L em (pc + 3) lv (.int r :: st) x (F r)) : Gq Γ ω L em pc lv st0 x (bnd G (fun r _ => F r)) := by
  intro q hq ht
  obtain ⟨r0, t0, hG, hF⟩ := bnd_some hq
  have hM0 := hM r0 t0 hG
  have kk0 := kk r0 q hF ht
  obtain ⟨p, l', e, R, s, m, args, below, meth, c, Q, A, nL', tgt⟩ := Γ
  obtain ⟨hll, hR, hnL, hx, hb, hml, hown, hts, hK, hD, hA, hN, hZ⟩ := h
  subst hll; subst hR; subst hnL
  intro ls H locs hh hP hS
  have h00 : ∀ q, aW ω L00 H.size q → H.size ≤ q := by
    rintro q (⟨i, hi, -⟩ | hq)
    · cases hi
    · exact hq
  refine va_calli (va_runS (As := As) (rest := st) ⟨hx, hb, hml, hown, hts⟩ (hM0 H.size) (va_cwS n hts hT hw hrc hrs hd hRm) ⟨PreW_blind, fun U hU hW => ⟨rfl, by rw [hU], (fun k q hk => by simp [wW, L00] at hk), va_K.moved hW.alike hK, (fun i j p q hi => by simp [L00] at hi), va_Nw.warmM hW hZ⟩⟩ rfl hn hh.1 hst (lv_room hsum) hdg ⟨Nat.zero_le _, Nat.zero_le _⟩) hS (fun q hl h => absurd hl (Nat.not_lt.mpr (h00 q h))) (fun q h => hA q (Nat.le_trans hS.1 (h00 q h))) (fun r u t H1 locs1 ht1 hvm hw hB hz1 hk1 hS1 => ?_)
  subst hw
  refine kk0 ls H1 locs1 hh (hP.kept (fun k q hk => hk1 q.1 (hP k q hk).lt (fun h => absurd (hP k q hk).lt (Nat.not_lt.mpr (h00 _ h))))) hS1
set_option maxHeartbeats 4000000 in
/-- a static method of numbers alone, of a nest mate -/
theorem g_callPN (h : CxOk Γ l rm nL ω L cc own ws) {index maxL : Nat} {host : String} {ty : FieldType} {y : MethodName} {ws2 ws2' : List Cond} {rm2 : Room} {bytes : ByteArray} {As : List Value} {G : Option (Int32 × Mm)} {F : Int32 → Option (Int32 × σ)}
    (hM : ∀ r t, G = some (r, t) → MI l y ws2 rm2 ω L00 As M00 r t) (n : Nat) (hn : As.length = n) (hT : GoodIn ws ws2) (hw : ws2 = Cond.code y bytes maxL (some ty) :: ws2') (hini : Cond.initialized y.cls ∈ ws) (hstt : Cond.static y ∈ ws) (hnx : ∀ U, Nst U → va_Nw (.methodLinkNest own index y host) U) (hrc : rm2.cells = 0) (hrs : rm2.slots = 0)
    (hd : y.cls ≠ "java/lang/invoke/MethodHandle" ∧ y.cls ≠ "java/lang/invoke/VarHandle" ∧ (parseMethodDescriptor y.desc).map (fun d => d.parameters.length) = some n) (hRm : rm2.frames + 1 ≤ rm.frames ∧ 8 + (maxL + 11) + rm2.locals ≤ rm.locals) {st0 : List Value} (hst : st0 = As.reverse ++ st) (hsum : (st.map fun v => v.category).sum ≤ 8) (hdg : decode cc pc = .ok (.invokestatic index, 3))
    (kk : ∀ r, Gq Γ ω L em (pc + 3) lv (.int r :: st) x (F r)) : Gq Γ ω L em pc lv st0 x (bnd G (fun r _ => F r)) := by
  intro q hq ht
  obtain ⟨r0, t0, hG, hF⟩ := bnd_some hq
  have hM0 := hM r0 t0 hG
  have kk0 := kk r0 q hF ht
  obtain ⟨p, l', e, R, s, m, args, below, meth, c, Q, A, nL', tgt⟩ := Γ
  obtain ⟨hll, hR, hnL, hx, hb, hml, hown, hts, hK, hD, hA, hN, hZ⟩ := h
  subst hll; subst hR; subst hnL
  intro ls H locs hh hP hS
  have h00 : ∀ q, aW ω L00 H.size q → H.size ≤ q := by
    rintro q (⟨i, hi, -⟩ | hq)
    · cases hi
    · exact hq
  refine va_calli (va_runSN (host := host) (As := As) (rest := st) ⟨hx, hb, hml, hown, hts⟩ (hM0 H.size) ⟨va_cnB n hts hT hw hrc hrs (hnx _ hZ) (hts _ hini) hd hRm, hts _ hstt, trivial⟩ ⟨PreW_blind, fun U hU hW => ⟨rfl, by rw [hU], (fun k q hk => by simp [wW, L00] at hk), va_K.moved hW.alike hK, (fun i j p q hi => by simp [L00] at hi), va_Nw.warmM hW hZ⟩⟩ rfl hn hh.1 hst (lv_room hsum) hdg ⟨Nat.zero_le _, Nat.zero_le _⟩) hS (fun q hl h => absurd hl (Nat.not_lt.mpr (h00 q h))) (fun q h => hA q (Nat.le_trans hS.1 (h00 q h))) (fun r u t H1 locs1 ht1 hvm hw hB hz1 hk1 hS1 => ?_)
  subst hw
  refine kk0 ls H1 locs1 hh (hP.kept (fun k q hk => hk1 q.1 (hP k q hk).lt (fun h => absurd (hP k q hk).lt (Nat.not_lt.mpr (h00 _ h))))) hS1
end CALLS

/-! THE TWO WORLDS. The game: block 0 the face's own object, 1 to 8 the states (1 now, 2 snapshot, 3 trial, 4 to 8 the history's), 9 the script, 10 the draws, 11 the row, 12 the history. The reference: one block. -/
def shS (k : Nat) : Nat → Sh := fun a => match a with
  | 0 => (0, 4, [some (k, 1), some (k, 2), some (k, 3), some (k, 4), some (k, 5), some (k, 6), some (k, 7), some (k, 8), some (k, 9), some (k, 10), none, none, none])
  | 1 => (1, 6, [])
  | 2 => (1, 6, [])
  | _ => (1, 30, [])
def shC : Nat → Nat → Sh := fun k => match k with
  | 0 => fun _ => (0, 5, [some (1, 0), some (2, 0), some (3, 0), some (12, 0), some (9, 0), some (10, 0), some (11, 0), none])
  | 9 => fun a => match a with
    | 0 => (0, 3, [some (9, 1), none, none, none, none, none, none])
    | _ => (2, 60, [])
  | 10 => fun _ => (0, 0, [none])
  | 11 => fun a => match a with
    | 0 => (0, 2, [some (11, 1), none])
    | _ => (1, 6, [])
  | 12 => fun a => match a with
    | 0 => (0, 1, [some (12, 1), none])
    | _ => (3, 5, [])
  | k => shS k
def idS (k : Nat) : List (Nat × Nat) := [(k, 0), (k, 1), (k, 2), (k, 3), (k, 4), (k, 5), (k, 6), (k, 7), (k, 8), (k, 9), (k, 10)]
def idC : List (Nat × Nat) := [(0, 0), (9, 0), (9, 1), (10, 0), (11, 0), (11, 1), (12, 0), (12, 1)] ++ (idS 1 ++ (idS 2 ++ (idS 3 ++ (idS 4 ++ (idS 5 ++ (idS 6 ++ (idS 7 ++ idS 8)))))))
def LC : Ly := (idC, shC)
def shM : Nat → Nat → Sh := fun _ a => match a with
  | 0 => (0, 6, [some (0, 1), none, none, some (0, 2), none, none, some (0, 3), some (0, 4), none, none, none, none, none])
  | 1 => (1, 2048, [])
  | 2 => (1, 60, [])
  | 3 => (1, 6, [])
  | _ => (1, 6, [])
def idM : List (Nat × Nat) := [(0, 0), (0, 1), (0, 2), (0, 3), (0, 4)]
def LM : Ly := (idM, shM)
theorem LC_nd : LC.1.Nodup := by decide +kernel
theorem LM_nd : LM.1.Nodup := by decide +kernel
theorem L00_nd : L00.1.Nodup := List.nodup_nil
/-- the blocks that are states -/
def kS (k : Nat) : Prop := 1 ≤ k ∧ k ≤ 8
theorem kS1 : kS 1 := ⟨by decide, by decide⟩
theorem kS2 : kS 2 := ⟨by decide, by decide⟩
theorem kS3 : kS 3 := ⟨by decide, by decide⟩
theorem kS_cases {k : Nat} (h : kS k) : k = 1 ∨ k = 2 ∨ k = 3 ∨ k = 4 ∨ k = 5 ∨ k = 6 ∨ k = 7 ∨ k = 8 := by
  obtain ⟨h1, h2⟩ := h
  omega
theorem inS {k : Nat} (h : kS k) (a : Nat) (ha : a < 11) : inL LC k a (shS k a) := by
  refine ⟨?_, ?_⟩
  · have hk := kS_cases h
    have e : ((List.range 9).all fun k => (List.range 11).all fun a => decide (k = 0) || decide ((k, a) ∈ idC)) = true := by decide +kernel
    have e1 := List.all_eq_true.mp (List.all_eq_true.mp e k (List.mem_range.mpr (by have := h.2; omega))) a (List.mem_range.mpr ha)
    have h1 := h.1
    simp only [Bool.or_eq_true, decide_eq_true_eq] at e1
    rcases e1 with e1 | e1
    · omega
    · exact e1
  · rcases kS_cases h with rfl | rfl | rfl | rfl | rfl | rfl | rfl | rfl <;> rfl
def sb (v : Int32) : Bool := decide (1 ≤ v.toNatClampNeg) && decide (v.toNatClampNeg ≤ 8)
theorem sb_k {v : Int32} (h : sb v = true) : kS v.toNatClampNeg := by
  simp only [sb, Bool.and_eq_true, decide_eq_true_eq] at h
  exact h
theorem iC_0_0 : inL LC 0 0 (shC 0 0) := ⟨by decide +kernel, rfl⟩
theorem iC_9_0 : inL LC 9 0 (shC 9 0) := ⟨by decide +kernel, rfl⟩
theorem iC_9_1 : inL LC 9 1 (shC 9 1) := ⟨by decide +kernel, rfl⟩
theorem iC_10_0 : inL LC 10 0 (shC 10 0) := ⟨by decide +kernel, rfl⟩
theorem iC_11_0 : inL LC 11 0 (shC 11 0) := ⟨by decide +kernel, rfl⟩
theorem iC_11_1 : inL LC 11 1 (shC 11 1) := ⟨by decide +kernel, rfl⟩
theorem iC_12_0 : inL LC 12 0 (shC 12 0) := ⟨by decide +kernel, rfl⟩
theorem iC_12_1 : inL LC 12 1 (shC 12 1) := ⟨by decide +kernel, rfl⟩
theorem iM_0_0 : inL LM 0 0 (shM 0 0) := ⟨by decide +kernel, rfl⟩
theorem iM_0_1 : inL LM 0 1 (shM 0 1) := ⟨by decide +kernel, rfl⟩
theorem iM_0_2 : inL LM 0 2 (shM 0 2) := ⟨by decide +kernel, rfl⟩
theorem iM_0_3 : inL LM 0 3 (shM 0 3) := ⟨by decide +kernel, rfl⟩
theorem iM_0_4 : inL LM 0 4 (shM 0 4) := ⟨by decide +kernel, rfl⟩
abbrev eI : Mm → Mm := fun M => M
theorem uMr (M : Mm) (k : Nat) (T : Tm) (a i : Nat) : uM M k T k a i = T a i := by rw [uM_same]
theorem nb_n {v : Int32} (h : nb .char v = true) : narrow .char (.int v) = .int v := by
  have e : vp_nar .char v = v := of_decide_eq_true h
  show Value.int (vp_nar .char v) = .int v
  rw [e]
theorem nb_f {v : Int32} (h : nb .char v = true) : fits .char (.int v) = true := by
  have e : vp_nar .char v = v := of_decide_eq_true h
  rw [← e, vp_nar_char]
  obtain ⟨n, hn, e2⟩ : ∃ n : Nat, n < 65536 ∧ v.toUInt32.toUInt16.toUInt32.toInt32 = nI n := by
    refine ⟨v.toUInt32.toUInt16.toNat, v.toUInt32.toUInt16.toNat_lt, ?_⟩
    apply Int32.toBitVec_inj.mp
    apply BitVec.eq_of_toNat_eq
    rw [pk_tn (by have := v.toUInt32.toUInt16.toNat_lt; omega)]
    simp
    rfl
  rw [e2]
  exact (pk_charN hn).2
/-- fuel: more than any loop turns -/
def fu : Nat := 1000
theorem MI_self {l : Launch} {y : MethodName} {ws : List Cond} {rm : Room} {ω : Wd} {L : Ly} {av : List Value} {M M' : Mm} {k : Nat} {r : Int32} (h : MI l y ws rm ω L av (uM M k (M k)) r M') : MI l y ws rm ω L av M r M' := by rwa [uM_self] at h
theorem MV_self {l : Launch} {y : MethodName} {ws : List Cond} {rm : Room} {ω : Wd} {L : Ly} {av : List Value} {M M' : Mm} {k : Nat} (h : MV l y ws rm ω L av (uM M k (M k)) M') : MV l y ws rm ω L av M M' := by rwa [uM_self] at h
end
