section
/-- a private method of a class that the tables say can be made, by its rows of tables_1 -/
def lw_okq (q : MethodName × Nat) : Prop := (q.1.cls ≠ "java/lang/invoke/MethodHandle" ∧ q.1.cls ≠ "java/lang/invoke/VarHandle") ∧ Cond.instantiable q.1.cls q.2 ∈ tables_1 ∧ Cond.privateMethod q.1 ∈ tables_1 ∧ Cond.instanceMethod q.1 ∈ tables_1
theorem lw_p0 : lw_okq (⟨"ConkerHeirs$History", "dropOldest", "()V"⟩, 2) := ⟨⟨by decide +kernel, by decide +kernel⟩, List.mem_of_getElem? (i := 80) (by decide +kernel), List.mem_of_getElem? (i := 190) (by decide +kernel), List.mem_of_getElem? (i := 191) (by decide +kernel)⟩
theorem lw_p1 : lw_okq (⟨"ConkerHeirs$State", "isOf", "(II)Z"⟩, 13) := ⟨⟨by decide +kernel, by decide +kernel⟩, List.mem_of_getElem? (i := 18) (by decide +kernel), List.mem_of_getElem? (i := 221) (by decide +kernel), List.mem_of_getElem? (i := 222) (by decide +kernel)⟩
theorem lw_p2 : lw_okq (⟨"ConkerHeirs$State", "takeVictoriesOfSmashed", "(I)I"⟩, 13) := ⟨⟨by decide +kernel, by decide +kernel⟩, List.mem_of_getElem? (i := 18) (by decide +kernel), List.mem_of_getElem? (i := 304) (by decide +kernel), List.mem_of_getElem? (i := 305) (by decide +kernel)⟩
theorem lw_p3 : lw_okq (⟨"ConkerHeirs$State", "pairError", "(IIZ)I"⟩, 13) := ⟨⟨by decide +kernel, by decide +kernel⟩, List.mem_of_getElem? (i := 18) (by decide +kernel), List.mem_of_getElem? (i := 318) (by decide +kernel), List.mem_of_getElem? (i := 319) (by decide +kernel)⟩
theorem lw_p4 : lw_okq (⟨"ConkerHeirs$State", "areInPlay", "(II)Z"⟩, 13) := ⟨⟨by decide +kernel, by decide +kernel⟩, List.mem_of_getElem? (i := 18) (by decide +kernel), List.mem_of_getElem? (i := 322) (by decide +kernel), List.mem_of_getElem? (i := 323) (by decide +kernel)⟩
theorem lw_p5 : lw_okq (⟨"ConkerHeirs$State", "settleSmashes", "(II)V"⟩, 13) := ⟨⟨by decide +kernel, by decide +kernel⟩, List.mem_of_getElem? (i := 18) (by decide +kernel), List.mem_of_getElem? (i := 356) (by decide +kernel), List.mem_of_getElem? (i := 357) (by decide +kernel)⟩
theorem lw_p6 : lw_okq (⟨"ConkerHeirs$State", "inherit", "(II)V"⟩, 13) := ⟨⟨by decide +kernel, by decide +kernel⟩, List.mem_of_getElem? (i := 18) (by decide +kernel), List.mem_of_getElem? (i := 361) (by decide +kernel), List.mem_of_getElem? (i := 362) (by decide +kernel)⟩
theorem lw_p7 : lw_okq (⟨"ConkerHeirs$State", "fallIfWorn", "(I)V"⟩, 13) := ⟨⟨by decide +kernel, by decide +kernel⟩, List.mem_of_getElem? (i := 18) (by decide +kernel), List.mem_of_getElem? (i := 365) (by decide +kernel), List.mem_of_getElem? (i := 366) (by decide +kernel)⟩
theorem lw_p8 : lw_okq (⟨"ConkerHeirs$State", "outcome", "(III)I"⟩, 13) := ⟨⟨by decide +kernel, by decide +kernel⟩, List.mem_of_getElem? (i := 18) (by decide +kernel), List.mem_of_getElem? (i := 369) (by decide +kernel), List.mem_of_getElem? (i := 370) (by decide +kernel)⟩
theorem lw_p9 : lw_okq (⟨"ConkerHeirs$Row", "insert", "(ILConkerHeirs$State;)V"⟩, 2) := ⟨⟨by decide +kernel, by decide +kernel⟩, List.mem_of_getElem? (i := 137) (by decide +kernel), List.mem_of_getElem? (i := 386) (by decide +kernel), List.mem_of_getElem? (i := 387) (by decide +kernel)⟩
theorem lw_p10 : lw_okq (⟨"ConkerHeirs$State", "conkersAheadOf", "(I)I"⟩, 13) := ⟨⟨by decide +kernel, by decide +kernel⟩, List.mem_of_getElem? (i := 18) (by decide +kernel), List.mem_of_getElem? (i := 415) (by decide +kernel), List.mem_of_getElem? (i := 416) (by decide +kernel)⟩
theorem lw_p11 : lw_okq (⟨"ConkerHeirs$State", "isInLineOf", "(II)Z"⟩, 13) := ⟨⟨by decide +kernel, by decide +kernel⟩, List.mem_of_getElem? (i := 18) (by decide +kernel), List.mem_of_getElem? (i := 444) (by decide +kernel), List.mem_of_getElem? (i := 445) (by decide +kernel)⟩
theorem lw_p12 : lw_okq (⟨"ConkerHeirs", "tryHit", "(III)I"⟩, 8) := ⟨⟨by decide +kernel, by decide +kernel⟩, List.mem_of_getElem? (i := 10) (by decide +kernel), List.mem_of_getElem? (i := 460) (by decide +kernel), List.mem_of_getElem? (i := 461) (by decide +kernel)⟩
def lw_privs_1 : List (MethodName × Nat) := [(⟨"ConkerHeirs$History", "dropOldest", "()V"⟩, 2), (⟨"ConkerHeirs$State", "isOf", "(II)Z"⟩, 13), (⟨"ConkerHeirs$State", "takeVictoriesOfSmashed", "(I)I"⟩, 13), (⟨"ConkerHeirs$State", "pairError", "(IIZ)I"⟩, 13), (⟨"ConkerHeirs$State", "areInPlay", "(II)Z"⟩, 13), (⟨"ConkerHeirs$State", "settleSmashes", "(II)V"⟩, 13), (⟨"ConkerHeirs$State", "inherit", "(II)V"⟩, 13), (⟨"ConkerHeirs$State", "fallIfWorn", "(I)V"⟩, 13), (⟨"ConkerHeirs$State", "outcome", "(III)I"⟩, 13), (⟨"ConkerHeirs$Row", "insert", "(ILConkerHeirs$State;)V"⟩, 2), (⟨"ConkerHeirs$State", "conkersAheadOf", "(I)I"⟩, 13), (⟨"ConkerHeirs$State", "isInLineOf", "(II)Z"⟩, 13), (⟨"ConkerHeirs", "tryHit", "(III)I"⟩, 8)]
theorem lw_r1 : ∀ q ∈ lw_privs_1, lw_okq q := List.forall_mem_cons.mpr ⟨lw_p0, List.forall_mem_cons.mpr ⟨lw_p1, List.forall_mem_cons.mpr ⟨lw_p2, List.forall_mem_cons.mpr ⟨lw_p3, List.forall_mem_cons.mpr ⟨lw_p4, List.forall_mem_cons.mpr ⟨lw_p5, List.forall_mem_cons.mpr ⟨lw_p6, List.forall_mem_cons.mpr ⟨lw_p7, List.forall_mem_cons.mpr ⟨lw_p8, List.forall_mem_cons.mpr ⟨lw_p9, List.forall_mem_cons.mpr ⟨lw_p10, List.forall_mem_cons.mpr ⟨lw_p11, List.forall_mem_cons.mpr ⟨lw_p12, fun _ h => absurd h List.not_mem_nil⟩⟩⟩⟩⟩⟩⟩⟩⟩⟩⟩⟩⟩
def lw_privs : List (MethodName × Nat) := lw_privs_1
def lw_tbl : List Cond := k2_sels lw_privs ++ tables_1
theorem lw_privs_ok : ∀ q ∈ lw_privs, lw_okq q := lw_r1
/-- the streams that the claim lets the run draw from -/
abbrev lw_cs : List Choice := [Jvm.Choice.named "NaN.bits"]
theorem lw_bits : nanBits ∈ lw_cs := by first | decide | exact List.mem_cons_self | simp [lw_cs, nanBits]
end
section
/-! ===== BEGIN words of one list among another's, by their places ===== -/
theorem goodIn_r {big : List Cond} (ws : List Cond) (ps : List Nat) (hp : ws = ps.filterMap (fun i => big[i]?)) (h : ws.all goodWord = true) : GoodIn big ws := by
  intro w hw
  have h1 := List.all_eq_true.mp h w hw
  rw [hp] at hw
  obtain ⟨i, -, hi⟩ := List.mem_filterMap.mp hw
  have hm : w ∈ big := by first | exact List.mem_of_getElem? hi | exact List.getElem?_mem hi
  exact ⟨hm, good_of_word h1⟩
theorem goodIn_app {big a b : List Cond} (ha : GoodIn big a) (hb : GoodIn big b) : GoodIn big (a ++ b) := fun w h => (List.mem_append.mp h).elim (ha w) (hb w)
theorem goodIn_ca {big a b : List Cond} {c : Cond} (ha : GoodIn big (c :: a)) (hb : GoodIn big b) : GoodIn big (c :: (a ++ b)) := fun w h => (List.mem_cons.mp h).elim (fun e => ha w (List.mem_cons.mpr (Or.inl e))) (fun h => (List.mem_append.mp h).elim (fun h => ha w (List.mem_cons.mpr (Or.inr h))) (hb w))
theorem goodIn_sub {big ws : List Cond} (hm : ∀ w ∈ ws, w ∈ big) (h : ws.all goodWord = true) : GoodIn big ws := fun w hw => ⟨hm w hw, good_of_word (List.all_eq_true.mp h w hw)⟩
/-! ===== END ===== -/

/-! ===== BEGIN printed: names, fields, word lists, decode rows ===== -/
def RX0 : String := "ConkerHeirs$Draws"
def TX0 : u_T := fun k => match k with
  | _ => ("ConkerHeirs$Draws", "x", "I", false)
def tyX0 : Nat → FieldType := fun k => match k with
  | _ => .int
abbrev wsX00 : List Cond := u_ws RX0 TX0 1
theorem nmX0 : ∀ a, a < 1 → ∀ b, b < 1 → a ≠ b → (TX0 a).2.1 ≠ (TX0 b).2.1 := by decide +kernel
theorem tyX0_ok : ∀ k, k < 1 → parseFieldDescriptor (TX0 k).2.2.1 = some (tyX0 k) := by decide +kernel
abbrev cX0_init : ByteArray := prog_2_method_1_code
def yX0_init : MethodName := ⟨RX0, "<init>", "()V"⟩
abbrev cX0_begin : ByteArray := prog_2_method_2_code
def yX0_begin : MethodName := ⟨RX0, "begin", "(I)V"⟩
abbrev cX0_next : ByteArray := prog_2_method_3_code
def yX0_next : MethodName := ⟨RX0, "next", "()I"⟩
abbrev cX0_swing : ByteArray := prog_2_method_4_code
def yX0_swing : MethodName := ⟨RX0, "swing", "()I"⟩
def RX1 : String := "ConkerHeirs$History"
def TX1 : u_T := fun k => match k with
  | 0 => ("ConkerHeirs$History", "states", "[LConkerHeirs$State;", true)
  | _ => ("ConkerHeirs$History", "held", "I", false)
def tyX1 : Nat → FieldType := fun k => match k with
  | 0 => .array (.object "ConkerHeirs$State")
  | _ => .int
abbrev wsX10 : List Cond := u_ws RX1 TX1 2
theorem nmX1 : ∀ a, a < 2 → ∀ b, b < 2 → a ≠ b → (TX1 a).2.1 ≠ (TX1 b).2.1 := by decide +kernel
theorem tyX1_ok : ∀ k, k < 2 → parseFieldDescriptor (TX1 k).2.2.1 = some (tyX1 k) := by decide +kernel
abbrev cX1_init : ByteArray := prog_3_method_1_code
def yX1_init : MethodName := ⟨RX1, "<init>", "()V"⟩
abbrev cX1_keep : ByteArray := prog_3_method_2_code
def yX1_keep : MethodName := ⟨RX1, "keep", "(LConkerHeirs$State;)V"⟩
abbrev cX1_bringBack : ByteArray := prog_3_method_3_code
def yX1_bringBack : MethodName := ⟨RX1, "bringBack", "(LConkerHeirs$State;)I"⟩
abbrev cX1_dropOldest : ByteArray := prog_3_method_4_code
def yX1_dropOldest : MethodName := ⟨RX1, "dropOldest", "()V"⟩
def RX2 : String := "ConkerHeirs$Row"
def TX2 : u_T := fun k => match k with
  | 0 => ("ConkerHeirs$Row", "conkers", "[I", true)
  | _ => ("ConkerHeirs$Row", "length", "I", false)
def tyX2 : Nat → FieldType := fun k => match k with
  | 0 => .array .int
  | _ => .int
abbrev wsX20 : List Cond := u_ws RX2 TX2 2
theorem nmX2 : ∀ a, a < 2 → ∀ b, b < 2 → a ≠ b → (TX2 a).2.1 ≠ (TX2 b).2.1 := by decide +kernel
theorem tyX2_ok : ∀ k, k < 2 → parseFieldDescriptor (TX2 k).2.2.1 = some (tyX2 k) := by decide +kernel
abbrev cX2_init : ByteArray := prog_4_method_1_code
def yX2_init : MethodName := ⟨RX2, "<init>", "()V"⟩
abbrev cX2_lineUp : ByteArray := prog_4_method_2_code
def yX2_lineUp : MethodName := ⟨RX2, "lineUp", "(LConkerHeirs$State;)V"⟩
abbrev cX2_insert : ByteArray := prog_4_method_3_code
def yX2_insert : MethodName := ⟨RX2, "insert", "(ILConkerHeirs$State;)V"⟩
abbrev cX2_takeOut : ByteArray := prog_4_method_4_code
def yX2_takeOut : MethodName := ⟨RX2, "takeOut", "(I)I"⟩
def RX3 : String := "ConkerHeirs$Script"
def TX3 : u_T := fun k => match k with
  | 0 => ("ConkerHeirs$Script", "signs", "[C", true)
  | 1 => ("ConkerHeirs$Script", "length", "I", false)
  | 2 => ("ConkerHeirs$Script", "at", "I", false)
  | 3 => ("ConkerHeirs$Script", "kind", "C", false)
  | 4 => ("ConkerHeirs$Script", "first", "I", false)
  | 5 => ("ConkerHeirs$Script", "second", "I", false)
  | _ => ("ConkerHeirs$Script", "swing", "I", false)
def tyX3 : Nat → FieldType := fun k => match k with
  | 0 => .array .char
  | 1 => .int
  | 2 => .int
  | 3 => .char
  | 4 => .int
  | 5 => .int
  | _ => .int
abbrev wsX30 : List Cond := u_ws RX3 TX3 7
theorem nmX3 : ∀ a, a < 7 → ∀ b, b < 7 → a ≠ b → (TX3 a).2.1 ≠ (TX3 b).2.1 := by decide +kernel
theorem tyX3_ok : ∀ k, k < 7 → parseFieldDescriptor (TX3 k).2.2.1 = some (tyX3 k) := by decide +kernel
abbrev cX3_init : ByteArray := prog_5_method_1_code
def yX3_init : MethodName := ⟨RX3, "<init>", "()V"⟩
def RX4 : String := "ConkerHeirs$State"
def TX4 : u_T := fun k => match k with
  | 0 => ("ConkerHeirs$State", "strings", "[I", true)
  | 1 => ("ConkerHeirs$State", "shame", "[I", true)
  | 2 => ("ConkerHeirs$State", "owner", "[I", true)
  | 3 => ("ConkerHeirs$State", "hardness", "[I", true)
  | 4 => ("ConkerHeirs$State", "crack", "[I", true)
  | 5 => ("ConkerHeirs$State", "wear", "[I", true)
  | 6 => ("ConkerHeirs$State", "victories", "[I", true)
  | 7 => ("ConkerHeirs$State", "boasts", "[I", true)
  | 8 => ("ConkerHeirs$State", "how", "[I", true)
  | 9 => ("ConkerHeirs$State", "smashedBy", "[I", true)
  | 10 => ("ConkerHeirs$State", "conkers", "I", false)
  | 11 => ("ConkerHeirs$State", "lostVictories", "I", false)
  | _ => ("ConkerHeirs$State", "strikes", "I", false)
def tyX4 : Nat → FieldType := fun k => match k with
  | 0 => .array .int
  | 1 => .array .int
  | 2 => .array .int
  | 3 => .array .int
  | 4 => .array .int
  | 5 => .array .int
  | 6 => .array .int
  | 7 => .array .int
  | 8 => .array .int
  | 9 => .array .int
  | 10 => .int
  | 11 => .int
  | _ => .int
abbrev wsX40 : List Cond := u_ws RX4 TX4 13
theorem nmX4 : ∀ a, a < 13 → ∀ b, b < 13 → a ≠ b → (TX4 a).2.1 ≠ (TX4 b).2.1 := by decide +kernel
theorem tyX4_ok : ∀ k, k < 13 → parseFieldDescriptor (TX4 k).2.2.1 = some (tyX4 k) := by decide +kernel
abbrev cX4_init : ByteArray := prog_6_method_1_code
def yX4_init : MethodName := ⟨RX4, "<init>", "()V"⟩
abbrev cX4_copyFrom : ByteArray := prog_6_method_2_code
def yX4_copyFrom : MethodName := ⟨RX4, "copyFrom", "(LConkerHeirs$State;)V"⟩
abbrev cX4_hasConker : ByteArray := prog_6_method_3_code
def yX4_hasConker : MethodName := ⟨RX4, "hasConker", "(I)Z"⟩
abbrev cX4_strikeError : ByteArray := prog_6_method_4_code
def yX4_strikeError : MethodName := ⟨RX4, "strikeError", "(III)I"⟩
abbrev cX4_boutError : ByteArray := prog_6_method_5_code
def yX4_boutError : MethodName := ⟨RX4, "boutError", "(III)I"⟩
abbrev cX4_pairError : ByteArray := prog_6_method_6_code
def yX4_pairError : MethodName := ⟨RX4, "pairError", "(IIZ)I"⟩
abbrev cX4_mendError : ByteArray := prog_6_method_7_code
def yX4_mendError : MethodName := ⟨RX4, "mendError", "(I)I"⟩
abbrev cX4_fallenError : ByteArray := prog_6_method_8_code
def yX4_fallenError : MethodName := ⟨RX4, "fallenError", "(I)I"⟩
abbrev cX4_addConker : ByteArray := prog_6_method_9_code
def yX4_addConker : MethodName := ⟨RX4, "addConker", "(II)I"⟩
abbrev cX4_threadAgain : ByteArray := prog_6_method_10_code
def yX4_threadAgain : MethodName := ⟨RX4, "threadAgain", "(I)I"⟩
abbrev cX4_crush : ByteArray := prog_6_method_11_code
def yX4_crush : MethodName := ⟨RX4, "crush", "(I)I"⟩
abbrev cX4_settleBoast : ByteArray := prog_6_method_12_code
def yX4_settleBoast : MethodName := ⟨RX4, "settleBoast", "(II)I"⟩
abbrev cX4_hit : ByteArray := prog_6_method_13_code
def yX4_hit : MethodName := ⟨RX4, "hit", "(III)I"⟩
abbrev cX4_fight : ByteArray := prog_6_method_14_code
def yX4_fight : MethodName := ⟨RX4, "fight", "(IILConkerHeirs$Draws;)I"⟩
abbrev cX4_settleSmashes : ByteArray := prog_6_method_15_code
def yX4_settleSmashes : MethodName := ⟨RX4, "settleSmashes", "(II)V"⟩
abbrev cX4_inherit : ByteArray := prog_6_method_16_code
def yX4_inherit : MethodName := ⟨RX4, "inherit", "(II)V"⟩
abbrev cX4_takeVictoriesOfSmashed : ByteArray := prog_6_method_17_code
def yX4_takeVictoriesOfSmashed : MethodName := ⟨RX4, "takeVictoriesOfSmashed", "(I)I"⟩
abbrev cX4_fallIfWorn : ByteArray := prog_6_method_18_code
def yX4_fallIfWorn : MethodName := ⟨RX4, "fallIfWorn", "(I)V"⟩
abbrev cX4_outcome : ByteArray := prog_6_method_19_code
def yX4_outcome : MethodName := ⟨RX4, "outcome", "(III)I"⟩
abbrev cX4_quotient : ByteArray := prog_6_method_20_code
def yX4_quotient : MethodName := ⟨RX4, "quotient", "(II)I"⟩
abbrev cX4_areInPlay : ByteArray := prog_6_method_21_code
def yX4_areInPlay : MethodName := ⟨RX4, "areInPlay", "(II)Z"⟩
abbrev cX4_isOf : ByteArray := prog_6_method_22_code
def yX4_isOf : MethodName := ⟨RX4, "isOf", "(II)Z"⟩
abbrev cX4_conkersBeing : ByteArray := prog_6_method_23_code
def yX4_conkersBeing : MethodName := ⟨RX4, "conkersBeing", "(II)I"⟩
abbrev cX4_victoriesOf : ByteArray := prog_6_method_24_code
def yX4_victoriesOf : MethodName := ⟨RX4, "victoriesOf", "(I)I"⟩
abbrev cX4_conkerToSend : ByteArray := prog_6_method_25_code
def yX4_conkerToSend : MethodName := ⟨RX4, "conkerToSend", "(I)I"⟩
abbrev cX4_conkerAtRank : ByteArray := prog_6_method_26_code
def yX4_conkerAtRank : MethodName := ⟨RX4, "conkerAtRank", "(I)I"⟩
abbrev cX4_conkersAheadOf : ByteArray := prog_6_method_27_code
def yX4_conkersAheadOf : MethodName := ⟨RX4, "conkersAheadOf", "(I)I"⟩
abbrev cX4_conkersSmashedBy : ByteArray := prog_6_method_28_code
def yX4_conkersSmashedBy : MethodName := ⟨RX4, "conkersSmashedBy", "(I)I"⟩
abbrev cX4_conkersWithHeir : ByteArray := prog_6_method_29_code
def yX4_conkersWithHeir : MethodName := ⟨RX4, "conkersWithHeir", "()I"⟩
abbrev cX4_lengthOfLine : ByteArray := prog_6_method_30_code
def yX4_lengthOfLine : MethodName := ⟨RX4, "lengthOfLine", "(I)I"⟩
abbrev cX4_isInLineOf : ByteArray := prog_6_method_31_code
def yX4_isInLineOf : MethodName := ⟨RX4, "isInLineOf", "(II)Z"⟩
abbrev cX4_boastsTold : ByteArray := prog_6_method_32_code
def yX4_boastsTold : MethodName := ⟨RX4, "boastsTold", "()I"⟩
abbrev cX4_boastsTooHigh : ByteArray := prog_6_method_33_code
def yX4_boastsTooHigh : MethodName := ⟨RX4, "boastsTooHigh", "()I"⟩
def RX5 : String := "ConkerHeirs"
def TX5 : u_T := fun k => match k with
  | 0 => ("ConkerHeirs", "now", "LConkerHeirs$State;", true)
  | 1 => ("ConkerHeirs", "snapshot", "LConkerHeirs$State;", true)
  | 2 => ("ConkerHeirs", "trial", "LConkerHeirs$State;", true)
  | 3 => ("ConkerHeirs", "history", "LConkerHeirs$History;", true)
  | 4 => ("ConkerHeirs", "script", "LConkerHeirs$Script;", true)
  | 5 => ("ConkerHeirs", "draws", "LConkerHeirs$Draws;", true)
  | 6 => ("ConkerHeirs", "row", "LConkerHeirs$Row;", true)
  | _ => ("ConkerHeirs", "hasSnapshot", "Z", false)
def tyX5 : Nat → FieldType := fun k => match k with
  | 0 => .object "ConkerHeirs$State"
  | 1 => .object "ConkerHeirs$State"
  | 2 => .object "ConkerHeirs$State"
  | 3 => .object "ConkerHeirs$History"
  | 4 => .object "ConkerHeirs$Script"
  | 5 => .object "ConkerHeirs$Draws"
  | 6 => .object "ConkerHeirs$Row"
  | _ => .boolean
abbrev wsX50 : List Cond := u_ws RX5 TX5 8
theorem nmX5 : ∀ a, a < 8 → ∀ b, b < 8 → a ≠ b → (TX5 a).2.1 ≠ (TX5 b).2.1 := by decide +kernel
theorem tyX5_ok : ∀ k, k < 8 → parseFieldDescriptor (TX5 k).2.2.1 = some (tyX5 k) := by decide +kernel
abbrev cX5_init : ByteArray := prog_1_method_1_code
def yX5_init : MethodName := ⟨RX5, "<init>", "()V"⟩
abbrev cX5_thread : ByteArray := prog_1_method_2_code
def yX5_thread : MethodName := ⟨RX5, "thread", "(II)I"⟩
abbrev cX5_give : ByteArray := prog_1_method_3_code
def yX5_give : MethodName := ⟨RX5, "give", "(II)I"⟩
abbrev cX5_strike : ByteArray := prog_1_method_4_code
def yX5_strike : MethodName := ⟨RX5, "strike", "(III)I"⟩
abbrev cX5_mend : ByteArray := prog_1_method_5_code
def yX5_mend : MethodName := ⟨RX5, "mend", "(I)I"⟩
abbrev cX5_stamp : ByteArray := prog_1_method_6_code
def yX5_stamp : MethodName := ⟨RX5, "stamp", "(I)I"⟩
abbrev cX5_boast : ByteArray := prog_1_method_7_code
def yX5_boast : MethodName := ⟨RX5, "boast", "(II)I"⟩
abbrev cX5_doubt : ByteArray := prog_1_method_8_code
def yX5_doubt : MethodName := ⟨RX5, "doubt", "(II)I"⟩
abbrev cX5_bout : ByteArray := prog_1_method_9_code
def yX5_bout : MethodName := ⟨RX5, "bout", "(III)I"⟩
abbrev cX5_round : ByteArray := prog_1_method_10_code
def yX5_round : MethodName := ⟨RX5, "round", "(I)I"⟩
abbrev cX5_undo : ByteArray := prog_1_method_15_code
def yX5_undo : MethodName := ⟨RX5, "undo", "()I"⟩
abbrev cX5_conker : ByteArray := prog_1_method_18_code
def yX5_conker : MethodName := ⟨RX5, "conker", "(II)I"⟩
abbrev cX5_player : ByteArray := prog_1_method_19_code
def yX5_player : MethodName := ⟨RX5, "player", "(II)I"⟩
abbrev cX5_ranked : ByteArray := prog_1_method_20_code
def yX5_ranked : MethodName := ⟨RX5, "ranked", "(I)I"⟩
abbrev cX5_line : ByteArray := prog_1_method_21_code
def yX5_line : MethodName := ⟨RX5, "line", "(I)I"⟩
abbrev cX5_count : ByteArray := prog_1_method_22_code
def yX5_count : MethodName := ⟨RX5, "count", "(I)I"⟩
abbrev cX5_ifStruck : ByteArray := prog_1_method_23_code
def yX5_ifStruck : MethodName := ⟨RX5, "ifStruck", "(III)I"⟩
abbrev cX5_leastSwing : ByteArray := prog_1_method_24_code
def yX5_leastSwing : MethodName := ⟨RX5, "leastSwing", "(II)I"⟩
abbrev cX5_winner : ByteArray := prog_1_method_25_code
def yX5_winner : MethodName := ⟨RX5, "winner", "(III)I"⟩
abbrev cX5_share : ByteArray := prog_1_method_26_code
def yX5_share : MethodName := ⟨RX5, "share", "(I)F"⟩
abbrev cX5_isWithin : ByteArray := prog_1_method_27_code
def yX5_isWithin : MethodName := ⟨RX5, "isWithin", "(III)Z"⟩
abbrev cX5_isPlayer : ByteArray := prog_1_method_28_code
def yX5_isPlayer : MethodName := ⟨RX5, "isPlayer", "(I)Z"⟩
abbrev cX5_tryHit : ByteArray := prog_1_method_29_code
def yX5_tryHit : MethodName := ⟨RX5, "tryHit", "(III)I"⟩
def RX6 : String := "ConkerHeirsModel"
def TX6 : u_T := fun k => match k with
  | _ => ("", "", "", false)
def tyX6 : Nat → FieldType := fun k => match k with
  | _ => .int
abbrev wsX60 : List Cond := u_ws RX6 TX6 0
theorem nmX6 : ∀ a, a < 0 → ∀ b, b < 0 → a ≠ b → (TX6 a).2.1 ≠ (TX6 b).2.1 := by decide +kernel
theorem tyX6_ok : ∀ k, k < 0 → parseFieldDescriptor (TX6 k).2.2.1 = some (tyX6 k) := by decide +kernel
def RJ9 : String := "java/lang/Math"
def TJ9 : u_T := fun k => match k with
  | _ => ("", "", "", false)
def tyJ9 : Nat → FieldType := fun k => match k with
  | _ => .int
abbrev wsJ90 : List Cond := u_ws RJ9 TJ9 0
theorem nmJ9 : ∀ a, a < 0 → ∀ b, b < 0 → a ≠ b → (TJ9 a).2.1 ≠ (TJ9 b).2.1 := by decide +kernel
theorem tyJ9_ok : ∀ k, k < 0 → parseFieldDescriptor (TJ9 k).2.2.1 = some (tyJ9 k) := by decide +kernel
abbrev cJ9_max_7cf53 : ByteArray := prog_9_method_65_code
def yJ9_max_7cf53 : MethodName := ⟨RJ9, "max", "(II)I"⟩
abbrev cJ9_min_7cf53 : ByteArray := prog_9_method_69_code
def yJ9_min_7cf53 : MethodName := ⟨RJ9, "min", "(II)I"⟩
def RJ10 : String := "java/lang/System"
def TJ10 : u_T := fun k => match k with
  | _ => ("", "", "", false)
def tyJ10 : Nat → FieldType := fun k => match k with
  | _ => .int
abbrev wsJ100 : List Cond := u_ws RJ10 TJ10 0
theorem nmJ10 : ∀ a, a < 0 → ∀ b, b < 0 → a ≠ b → (TJ10 a).2.1 ≠ (TJ10 b).2.1 := by decide +kernel
theorem tyJ10_ok : ∀ k, k < 0 → parseFieldDescriptor (TJ10 k).2.2.1 = some (tyJ10 k) := by decide +kernel
def RL : String := "ConkerHeirsLaw"
abbrev cL_cell : ByteArray := method_2_code
def yL_cell : MethodName := ⟨RL, "cell", "([II)I"⟩
abbrev cL_low : ByteArray := method_3_code
def yL_low : MethodName := ⟨RL, "low", "(II)I"⟩
abbrev cL_act : ByteArray := method_4_code
def yL_act : MethodName := ⟨RL, "act", "(LConkerHeirs;II)I"⟩
abbrev cL_conkers : ByteArray := method_5_code
def yL_conkers : MethodName := ⟨RL, "conkers", "(LConkerHeirs;)Z"⟩
abbrev cL_hangs : ByteArray := method_6_code
def yL_hangs : MethodName := ⟨RL, "hangs", "(LConkerHeirs;)Z"⟩
abbrev cL_print : ByteArray := method_7_code
def yL_print : MethodName := ⟨RL, "print", "(LConkerHeirs;)J"⟩
abbrev cL_strikes : ByteArray := method_8_code
def yL_strikes : MethodName := ⟨RL, "strikes", "(LConkerHeirs;III)Z"⟩
abbrev cL_fights : ByteArray := method_9_code
def yL_fights : MethodName := ⟨RL, "fights", "(LConkerHeirs;III)Z"⟩
abbrev cL_rounds : ByteArray := method_10_code
def yL_rounds : MethodName := ⟨RL, "rounds", "(LConkerHeirs;I)Z"⟩
abbrev cL_law : ByteArray := code
def yL_law : MethodName := ⟨RL, "law", "([I)Z"⟩
def wsX0_init : List Cond := .code yX0_init cX0_init 1 none :: ([.methodLink RX0 1 objectInit, .instanceMethod objectInit, .code objectInit ⟨#[0xb1]⟩ 1 none, .fieldLink RX0 7 "ConkerHeirs$Draws" "x" "I"] ++ wsX00)
def wsX0_begin : List Cond := .code yX0_begin cX0_begin 2 none :: ([.fieldLink RX0 7 "ConkerHeirs$Draws" "x" "I"] ++ wsX00)
def wsX0_next : List Cond := .code yX0_next cX0_next 1 (some .int) :: ([.fieldLink RX0 7 "ConkerHeirs$Draws" "x" "I", .constant RX0 13 (65536)] ++ wsX00)
def wsX0_swing : List Cond := .code yX0_swing cX0_swing 1 (some .int) :: ([.methodLink RX0 14 yX0_next, .instanceMethod yX0_next, .selects RX0 yX0_next yX0_next, .initialized RX0, .code yX0_next cX0_next 1 (some .int), .fieldLink RX0 7 "ConkerHeirs$Draws" "x" "I", .constant RX0 13 (65536)] ++ wsX00)
def wsX4_init : List Cond := .code yX4_init cX4_init 2 none :: ([.methodLink RX4 3 objectInit, .instanceMethod objectInit, .code objectInit ⟨#[0xb1]⟩ 1 none, .arrayClass .int, .fieldLink RX4 9 "ConkerHeirs$State" "strings" "[I", .fieldLink RX4 15 "ConkerHeirs$State" "shame" "[I", .fieldLink RX4 18 "ConkerHeirs$State" "owner" "[I", .fieldLink RX4 21 "ConkerHeirs$State" "hardness" "[I", .fieldLink RX4 24 "ConkerHeirs$State" "crack" "[I", .fieldLink RX4 27 "ConkerHeirs$State" "wear" "[I", .fieldLink RX4 30 "ConkerHeirs$State" "victories" "[I", .fieldLink RX4 33 "ConkerHeirs$State" "boasts" "[I", .fieldLink RX4 36 "ConkerHeirs$State" "how" "[I", .fieldLink RX4 39 "ConkerHeirs$State" "smashedBy" "[I", .fieldLink RX4 42 "ConkerHeirs$State" "conkers" "I", .fieldLink RX4 46 "ConkerHeirs$State" "lostVictories" "I", .fieldLink RX4 49 "ConkerHeirs$State" "strikes" "I"] ++ wsX40)
def wsX1_init_r1 : List Cond := [Cond.methodLink RX1 3 objectInit, Cond.instanceMethod objectInit, Cond.code objectInit ⟨#[0xb1]⟩ 1 none, Cond.classLink RX1 9 RX4, Cond.fieldLink RX1 11 "ConkerHeirs$History" "states" "[LConkerHeirs$State;", Cond.fieldLink RX1 17 "ConkerHeirs$History" "held" "I", Cond.instantiable RX4 13, Cond.initialized RX4, Cond.methodLink RX1 21 yX4_init, Cond.instanceMethod yX4_init, Cond.code yX4_init cX4_init 2 none, Cond.methodLink RX4 3 objectInit, Cond.arrayClass .int, Cond.fieldLink RX4 9 "ConkerHeirs$State" "strings" "[I", Cond.fieldLink RX4 15 "ConkerHeirs$State" "shame" "[I", Cond.fieldLink RX4 18 "ConkerHeirs$State" "owner" "[I", Cond.fieldLink RX4 21 "ConkerHeirs$State" "hardness" "[I", Cond.fieldLink RX4 24 "ConkerHeirs$State" "crack" "[I", Cond.fieldLink RX4 27 "ConkerHeirs$State" "wear" "[I", Cond.fieldLink RX4 30 "ConkerHeirs$State" "victories" "[I", Cond.fieldLink RX4 33 "ConkerHeirs$State" "boasts" "[I", Cond.fieldLink RX4 36 "ConkerHeirs$State" "how" "[I", Cond.fieldLink RX4 39 "ConkerHeirs$State" "smashedBy" "[I", Cond.fieldLink RX4 42 "ConkerHeirs$State" "conkers" "I"]
def wsX1_init_r2 : List Cond := [Cond.fieldLink RX4 46 "ConkerHeirs$State" "lostVictories" "I", Cond.fieldLink RX4 49 "ConkerHeirs$State" "strikes" "I"]
def wsX1_init : List Cond := .code yX1_init cX1_init 2 none :: ((wsX1_init_r1 ++ wsX1_init_r2) ++ wsX10 ++ wsX40)
def wsX1_dropOldest : List Cond := .code yX1_dropOldest cX1_dropOldest 3 none :: ([.fieldLink RX1 11 "ConkerHeirs$History" "states" "[LConkerHeirs$State;", .fieldLink RX1 17 "ConkerHeirs$History" "held" "I"] ++ wsX10)
def wsX4_copyFrom : List Cond := .code yX4_copyFrom cX4_copyFrom 2 none :: ([.fieldLink RX4 9 "ConkerHeirs$State" "strings" "[I", .methodLink RX4 52 arraycopyName, .native arraycopyName, .static arraycopyName, .initialized "java/lang/System", .fieldLink RX4 15 "ConkerHeirs$State" "shame" "[I", .fieldLink RX4 18 "ConkerHeirs$State" "owner" "[I", .fieldLink RX4 21 "ConkerHeirs$State" "hardness" "[I", .fieldLink RX4 24 "ConkerHeirs$State" "crack" "[I", .fieldLink RX4 27 "ConkerHeirs$State" "wear" "[I", .fieldLink RX4 30 "ConkerHeirs$State" "victories" "[I", .fieldLink RX4 33 "ConkerHeirs$State" "boasts" "[I", .fieldLink RX4 36 "ConkerHeirs$State" "how" "[I", .fieldLink RX4 39 "ConkerHeirs$State" "smashedBy" "[I", .fieldLink RX4 42 "ConkerHeirs$State" "conkers" "I", .fieldLink RX4 46 "ConkerHeirs$State" "lostVictories" "I", .fieldLink RX4 49 "ConkerHeirs$State" "strikes" "I"] ++ wsX40)
def wsX1_keep_r1 : List Cond := [Cond.fieldLink RX1 17 "ConkerHeirs$History" "held" "I", Cond.fieldLink RX1 11 "ConkerHeirs$History" "states" "[LConkerHeirs$State;", Cond.methodLink RX1 22 yX1_dropOldest, Cond.instanceMethod yX1_dropOldest, Cond.selects RX1 yX1_dropOldest yX1_dropOldest, Cond.initialized RX1, Cond.code yX1_dropOldest cX1_dropOldest 3 none, Cond.methodLink RX1 25 yX4_copyFrom, Cond.instanceMethod yX4_copyFrom, Cond.selects RX4 yX4_copyFrom yX4_copyFrom, Cond.initialized RX4, Cond.code yX4_copyFrom cX4_copyFrom 2 none, Cond.fieldLink RX4 9 "ConkerHeirs$State" "strings" "[I", Cond.methodLink RX4 52 arraycopyName, Cond.native arraycopyName, Cond.static arraycopyName, Cond.initialized "java/lang/System", Cond.fieldLink RX4 15 "ConkerHeirs$State" "shame" "[I", Cond.fieldLink RX4 18 "ConkerHeirs$State" "owner" "[I", Cond.fieldLink RX4 21 "ConkerHeirs$State" "hardness" "[I", Cond.fieldLink RX4 24 "ConkerHeirs$State" "crack" "[I", Cond.fieldLink RX4 27 "ConkerHeirs$State" "wear" "[I", Cond.fieldLink RX4 30 "ConkerHeirs$State" "victories" "[I", Cond.fieldLink RX4 33 "ConkerHeirs$State" "boasts" "[I"]
def wsX1_keep_r2 : List Cond := [Cond.fieldLink RX4 36 "ConkerHeirs$State" "how" "[I", Cond.fieldLink RX4 39 "ConkerHeirs$State" "smashedBy" "[I", Cond.fieldLink RX4 42 "ConkerHeirs$State" "conkers" "I", Cond.fieldLink RX4 46 "ConkerHeirs$State" "lostVictories" "I", Cond.fieldLink RX4 49 "ConkerHeirs$State" "strikes" "I"]
def wsX1_keep : List Cond := .code yX1_keep cX1_keep 2 none :: ((wsX1_keep_r1 ++ wsX1_keep_r2) ++ wsX10 ++ wsX40)
def wsX1_bringBack : List Cond := .code yX1_bringBack cX1_bringBack 2 (some .int) :: ([.fieldLink RX1 17 "ConkerHeirs$History" "held" "I", .fieldLink RX1 11 "ConkerHeirs$History" "states" "[LConkerHeirs$State;", .methodLink RX1 25 yX4_copyFrom, .instanceMethod yX4_copyFrom, .selects RX4 yX4_copyFrom yX4_copyFrom, .initialized RX4, .code yX4_copyFrom cX4_copyFrom 2 none, .fieldLink RX4 9 "ConkerHeirs$State" "strings" "[I", .methodLink RX4 52 arraycopyName, .native arraycopyName, .static arraycopyName, .initialized "java/lang/System", .fieldLink RX4 15 "ConkerHeirs$State" "shame" "[I", .fieldLink RX4 18 "ConkerHeirs$State" "owner" "[I", .fieldLink RX4 21 "ConkerHeirs$State" "hardness" "[I", .fieldLink RX4 24 "ConkerHeirs$State" "crack" "[I", .fieldLink RX4 27 "ConkerHeirs$State" "wear" "[I", .fieldLink RX4 30 "ConkerHeirs$State" "victories" "[I", .fieldLink RX4 33 "ConkerHeirs$State" "boasts" "[I", .fieldLink RX4 36 "ConkerHeirs$State" "how" "[I", .fieldLink RX4 39 "ConkerHeirs$State" "smashedBy" "[I", .fieldLink RX4 42 "ConkerHeirs$State" "conkers" "I", .fieldLink RX4 46 "ConkerHeirs$State" "lostVictories" "I", .fieldLink RX4 49 "ConkerHeirs$State" "strikes" "I"] ++ wsX10 ++ wsX40)
def wsX2_init : List Cond := .code yX2_init cX2_init 1 none :: ([.methodLink RX2 3 objectInit, .instanceMethod objectInit, .code objectInit ⟨#[0xb1]⟩ 1 none, .arrayClass .int, .fieldLink RX2 9 "ConkerHeirs$Row" "conkers" "[I", .fieldLink RX2 15 "ConkerHeirs$Row" "length" "I"] ++ wsX20)
def wsX4_conkerToSend : List Cond := .code yX4_conkerToSend cX4_conkerToSend 4 (some .int) :: ([.fieldLink RX4 42 "ConkerHeirs$State" "conkers" "I", .fieldLink RX4 36 "ConkerHeirs$State" "how" "[I", .fieldLink RX4 18 "ConkerHeirs$State" "owner" "[I", .fieldLink RX4 30 "ConkerHeirs$State" "victories" "[I"] ++ wsX40)
def wsX2_insert : List Cond := .code yX2_insert cX2_insert 5 none :: ([.fieldLink RX2 29 "ConkerHeirs$State" "shame" "[I", .fieldLink RX2 32 "ConkerHeirs$State" "owner" "[I", .fieldLink RX2 15 "ConkerHeirs$Row" "length" "I", .fieldLink RX2 9 "ConkerHeirs$Row" "conkers" "[I"] ++ wsX40 ++ wsX20)
def wsX2_lineUp : List Cond := .code yX2_lineUp cX2_lineUp 4 none :: ([.fieldLink RX2 15 "ConkerHeirs$Row" "length" "I", .methodLink RX2 19 yX4_conkerToSend, .instanceMethod yX4_conkerToSend, .selects RX4 yX4_conkerToSend yX4_conkerToSend, .initialized RX4, .code yX4_conkerToSend cX4_conkerToSend 4 (some .int), .fieldLink RX4 42 "ConkerHeirs$State" "conkers" "I", .fieldLink RX4 36 "ConkerHeirs$State" "how" "[I", .fieldLink RX4 18 "ConkerHeirs$State" "owner" "[I", .fieldLink RX4 30 "ConkerHeirs$State" "victories" "[I", .methodLink RX2 25 yX2_insert, .instanceMethod yX2_insert, .selects RX2 yX2_insert yX2_insert, .initialized RX2, .code yX2_insert cX2_insert 5 none, .fieldLink RX2 29 "ConkerHeirs$State" "shame" "[I", .fieldLink RX2 32 "ConkerHeirs$State" "owner" "[I", .fieldLink RX2 9 "ConkerHeirs$Row" "conkers" "[I"] ++ wsX20 ++ wsX40)
def wsX2_takeOut : List Cond := .code yX2_takeOut cX2_takeOut 4 (some .int) :: ([.fieldLink RX2 9 "ConkerHeirs$Row" "conkers" "[I", .fieldLink RX2 15 "ConkerHeirs$Row" "length" "I"] ++ wsX20)
def wsX3_init : List Cond := .code yX3_init cX3_init 1 none :: ([.methodLink RX3 3 objectInit, .instanceMethod objectInit, .code objectInit ⟨#[0xb1]⟩ 1 none, .arrayClass .char, .fieldLink RX3 9 "ConkerHeirs$Script" "signs" "[C", .fieldLink RX3 15 "ConkerHeirs$Script" "length" "I", .fieldLink RX3 19 "ConkerHeirs$Script" "at" "I", .fieldLink RX3 22 "ConkerHeirs$Script" "kind" "C", .fieldLink RX3 26 "ConkerHeirs$Script" "first" "I", .fieldLink RX3 29 "ConkerHeirs$Script" "second" "I", .fieldLink RX3 32 "ConkerHeirs$Script" "swing" "I"] ++ wsX30)
def wsX5_isWithin : List Cond := .code yX5_isWithin cX5_isWithin 3 (some .boolean) :: ([])
def wsX4_hasConker : List Cond := .code yX4_hasConker cX4_hasConker 2 (some .boolean) :: ([.fieldLink RX4 42 "ConkerHeirs$State" "conkers" "I", .static yX5_isWithin, .initialized RX5, .code yX5_isWithin cX5_isWithin 3 (some .boolean)] ++ wsX40)
def wsX4_areInPlay : List Cond := .code yX4_areInPlay cX4_areInPlay 3 (some .boolean) :: ([.fieldLink RX4 36 "ConkerHeirs$State" "how" "[I"] ++ wsX40)
def wsX4_pairError : List Cond := .code yX4_pairError cX4_pairError 4 (some .int) :: ([.fieldLink RX4 18 "ConkerHeirs$State" "owner" "[I", .methodLink RX4 67 yX4_hasConker, .instanceMethod yX4_hasConker, .selects RX4 yX4_hasConker yX4_hasConker, .initialized RX4, .code yX4_hasConker cX4_hasConker 2 (some .boolean), .fieldLink RX4 42 "ConkerHeirs$State" "conkers" "I", .static yX5_isWithin, .initialized RX5, .code yX5_isWithin cX5_isWithin 3 (some .boolean), .methodLink RX4 71 yX4_areInPlay, .instanceMethod yX4_areInPlay, .selects RX4 yX4_areInPlay yX4_areInPlay, .code yX4_areInPlay cX4_areInPlay 3 (some .boolean), .fieldLink RX4 36 "ConkerHeirs$State" "how" "[I"] ++ wsX40)
def wsX4_strikeError : List Cond := .code yX4_strikeError cX4_strikeError 4 (some .int) :: ([.static yX5_isWithin, .initialized RX5, .code yX5_isWithin cX5_isWithin 3 (some .boolean), .methodLink RX4 62 yX4_pairError, .instanceMethod yX4_pairError, .selects RX4 yX4_pairError yX4_pairError, .initialized RX4, .code yX4_pairError cX4_pairError 4 (some .int), .fieldLink RX4 18 "ConkerHeirs$State" "owner" "[I", .methodLink RX4 67 yX4_hasConker, .instanceMethod yX4_hasConker, .selects RX4 yX4_hasConker yX4_hasConker, .code yX4_hasConker cX4_hasConker 2 (some .boolean), .fieldLink RX4 42 "ConkerHeirs$State" "conkers" "I", .methodLink RX4 71 yX4_areInPlay, .instanceMethod yX4_areInPlay, .selects RX4 yX4_areInPlay yX4_areInPlay, .code yX4_areInPlay cX4_areInPlay 3 (some .boolean), .fieldLink RX4 36 "ConkerHeirs$State" "how" "[I"] ++ wsX40)
def wsX4_boutError : List Cond := .code yX4_boutError cX4_boutError 4 (some .int) :: ([.constant RX4 66 (65535), .static yX5_isWithin, .initialized RX5, .code yX5_isWithin cX5_isWithin 3 (some .boolean), .methodLink RX4 62 yX4_pairError, .instanceMethod yX4_pairError, .selects RX4 yX4_pairError yX4_pairError, .initialized RX4, .code yX4_pairError cX4_pairError 4 (some .int), .fieldLink RX4 18 "ConkerHeirs$State" "owner" "[I", .methodLink RX4 67 yX4_hasConker, .instanceMethod yX4_hasConker, .selects RX4 yX4_hasConker yX4_hasConker, .code yX4_hasConker cX4_hasConker 2 (some .boolean), .fieldLink RX4 42 "ConkerHeirs$State" "conkers" "I", .methodLink RX4 71 yX4_areInPlay, .instanceMethod yX4_areInPlay, .selects RX4 yX4_areInPlay yX4_areInPlay, .code yX4_areInPlay cX4_areInPlay 3 (some .boolean), .fieldLink RX4 36 "ConkerHeirs$State" "how" "[I"] ++ wsX40)
def wsX4_fallenError : List Cond := .code yX4_fallenError cX4_fallenError 2 (some .int) :: ([.fieldLink RX4 36 "ConkerHeirs$State" "how" "[I", .methodLink RX4 67 yX4_hasConker, .instanceMethod yX4_hasConker, .selects RX4 yX4_hasConker yX4_hasConker, .initialized RX4, .code yX4_hasConker cX4_hasConker 2 (some .boolean), .fieldLink RX4 42 "ConkerHeirs$State" "conkers" "I", .static yX5_isWithin, .initialized RX5, .code yX5_isWithin cX5_isWithin 3 (some .boolean)] ++ wsX40)
def wsX4_mendError : List Cond := .code yX4_mendError cX4_mendError 3 (some .int) :: ([.fieldLink RX4 9 "ConkerHeirs$State" "strings" "[I", .fieldLink RX4 18 "ConkerHeirs$State" "owner" "[I", .methodLink RX4 75 yX4_fallenError, .instanceMethod yX4_fallenError, .selects RX4 yX4_fallenError yX4_fallenError, .initialized RX4, .code yX4_fallenError cX4_fallenError 2 (some .int), .fieldLink RX4 36 "ConkerHeirs$State" "how" "[I", .methodLink RX4 67 yX4_hasConker, .instanceMethod yX4_hasConker, .selects RX4 yX4_hasConker yX4_hasConker, .code yX4_hasConker cX4_hasConker 2 (some .boolean), .fieldLink RX4 42 "ConkerHeirs$State" "conkers" "I", .static yX5_isWithin, .initialized RX5, .code yX5_isWithin cX5_isWithin 3 (some .boolean)] ++ wsX40)
def wsX4_addConker : List Cond := .code yX4_addConker cX4_addConker 4 (some .int) :: ([.fieldLink RX4 42 "ConkerHeirs$State" "conkers" "I", .fieldLink RX4 9 "ConkerHeirs$State" "strings" "[I", .fieldLink RX4 18 "ConkerHeirs$State" "owner" "[I", .fieldLink RX4 21 "ConkerHeirs$State" "hardness" "[I", .fieldLink RX4 24 "ConkerHeirs$State" "crack" "[I", .fieldLink RX4 27 "ConkerHeirs$State" "wear" "[I", .fieldLink RX4 30 "ConkerHeirs$State" "victories" "[I", .fieldLink RX4 33 "ConkerHeirs$State" "boasts" "[I", .fieldLink RX4 36 "ConkerHeirs$State" "how" "[I", .fieldLink RX4 39 "ConkerHeirs$State" "smashedBy" "[I"] ++ wsX40)
def wsX4_threadAgain : List Cond := .code yX4_threadAgain cX4_threadAgain 3 (some .int) :: ([.fieldLink RX4 18 "ConkerHeirs$State" "owner" "[I", .fieldLink RX4 9 "ConkerHeirs$State" "strings" "[I", .fieldLink RX4 27 "ConkerHeirs$State" "wear" "[I", .fieldLink RX4 36 "ConkerHeirs$State" "how" "[I"] ++ wsX40)
def wsX4_takeVictoriesOfSmashed : List Cond := .code yX4_takeVictoriesOfSmashed cX4_takeVictoriesOfSmashed 3 (some .int) :: ([.fieldLink RX4 30 "ConkerHeirs$State" "victories" "[I", .fieldLink RX4 33 "ConkerHeirs$State" "boasts" "[I", .fieldLink RX4 36 "ConkerHeirs$State" "how" "[I"] ++ wsX40)
def wsX4_crush : List Cond := .code yX4_crush cX4_crush 3 (some .int) :: ([.fieldLink RX4 46 "ConkerHeirs$State" "lostVictories" "I", .methodLink RX4 79 yX4_takeVictoriesOfSmashed, .instanceMethod yX4_takeVictoriesOfSmashed, .selects RX4 yX4_takeVictoriesOfSmashed yX4_takeVictoriesOfSmashed, .initialized RX4, .code yX4_takeVictoriesOfSmashed cX4_takeVictoriesOfSmashed 3 (some .int), .fieldLink RX4 30 "ConkerHeirs$State" "victories" "[I", .fieldLink RX4 33 "ConkerHeirs$State" "boasts" "[I", .fieldLink RX4 36 "ConkerHeirs$State" "how" "[I"] ++ wsX40)
def wsX4_settleBoast : List Cond := .code yX4_settleBoast cX4_settleBoast 4 (some .int) :: ([.fieldLink RX4 33 "ConkerHeirs$State" "boasts" "[I", .fieldLink RX4 30 "ConkerHeirs$State" "victories" "[I", .fieldLink RX4 18 "ConkerHeirs$State" "owner" "[I", .fieldLink RX4 15 "ConkerHeirs$State" "shame" "[I"] ++ wsX40)
def wsX4_quotient : List Cond := .code yX4_quotient cX4_quotient 2 (some .int) :: ([])
def wsX4_inherit : List Cond := .code yX4_inherit cX4_inherit 3 none :: ([.fieldLink RX4 30 "ConkerHeirs$State" "victories" "[I", .fieldLink RX4 39 "ConkerHeirs$State" "smashedBy" "[I", .methodLink RX4 79 yX4_takeVictoriesOfSmashed, .instanceMethod yX4_takeVictoriesOfSmashed, .selects RX4 yX4_takeVictoriesOfSmashed yX4_takeVictoriesOfSmashed, .initialized RX4, .code yX4_takeVictoriesOfSmashed cX4_takeVictoriesOfSmashed 3 (some .int), .fieldLink RX4 33 "ConkerHeirs$State" "boasts" "[I", .fieldLink RX4 36 "ConkerHeirs$State" "how" "[I"] ++ wsX40)
def wsX4_settleSmashes : List Cond := .code yX4_settleSmashes cX4_settleSmashes 5 none :: ([.fieldLink RX4 24 "ConkerHeirs$State" "crack" "[I", .methodLink RX4 115 yX4_crush, .instanceMethod yX4_crush, .selects RX4 yX4_crush yX4_crush, .initialized RX4, .code yX4_crush cX4_crush 3 (some .int), .fieldLink RX4 46 "ConkerHeirs$State" "lostVictories" "I", .methodLink RX4 79 yX4_takeVictoriesOfSmashed, .instanceMethod yX4_takeVictoriesOfSmashed, .selects RX4 yX4_takeVictoriesOfSmashed yX4_takeVictoriesOfSmashed, .code yX4_takeVictoriesOfSmashed cX4_takeVictoriesOfSmashed 3 (some .int), .fieldLink RX4 30 "ConkerHeirs$State" "victories" "[I", .fieldLink RX4 33 "ConkerHeirs$State" "boasts" "[I", .fieldLink RX4 36 "ConkerHeirs$State" "how" "[I", .methodLink RX4 118 yX4_inherit, .instanceMethod yX4_inherit, .selects RX4 yX4_inherit yX4_inherit, .code yX4_inherit cX4_inherit 3 none, .fieldLink RX4 39 "ConkerHeirs$State" "smashedBy" "[I"] ++ wsX40)
def wsX4_fallIfWorn : List Cond := .code yX4_fallIfWorn cX4_fallIfWorn 2 none :: ([.fieldLink RX4 36 "ConkerHeirs$State" "how" "[I", .fieldLink RX4 27 "ConkerHeirs$State" "wear" "[I"] ++ wsX40)
def wsX4_outcome : List Cond := .code yX4_outcome cX4_outcome 4 (some .int) :: ([.fieldLink RX4 36 "ConkerHeirs$State" "how" "[I"] ++ wsX40)
def wsX4_hit_r1 : List Cond := [Cond.fieldLink RX4 21 "ConkerHeirs$State" "hardness" "[I", Cond.fieldLink RX4 49 "ConkerHeirs$State" "strikes" "I", Cond.fieldLink RX4 24 "ConkerHeirs$State" "crack" "[I", Cond.methodLink RX4 86 Lib.Math.min.name, Cond.static Lib.Math.min.name, Cond.initialized "java/lang/Math", Cond.code Lib.Math.min.name Lib.Math.min.code 2 (some .int), Cond.fieldLink RX4 27 "ConkerHeirs$State" "wear" "[I", Cond.methodLink RX4 82 yX4_quotient, Cond.static yX4_quotient, Cond.initialized RX4, Cond.code yX4_quotient cX4_quotient 2 (some .int), Cond.methodLink RX4 91 yX4_settleSmashes, Cond.instanceMethod yX4_settleSmashes, Cond.selects RX4 yX4_settleSmashes yX4_settleSmashes, Cond.code yX4_settleSmashes cX4_settleSmashes 5 none, Cond.methodLink RX4 115 yX4_crush, Cond.instanceMethod yX4_crush, Cond.selects RX4 yX4_crush yX4_crush, Cond.code yX4_crush cX4_crush 3 (some .int), Cond.fieldLink RX4 46 "ConkerHeirs$State" "lostVictories" "I", Cond.methodLink RX4 79 yX4_takeVictoriesOfSmashed, Cond.instanceMethod yX4_takeVictoriesOfSmashed, Cond.selects RX4 yX4_takeVictoriesOfSmashed yX4_takeVictoriesOfSmashed]
def wsX4_hit_r2 : List Cond := [Cond.code yX4_takeVictoriesOfSmashed cX4_takeVictoriesOfSmashed 3 (some .int), Cond.fieldLink RX4 30 "ConkerHeirs$State" "victories" "[I", Cond.fieldLink RX4 33 "ConkerHeirs$State" "boasts" "[I", Cond.fieldLink RX4 36 "ConkerHeirs$State" "how" "[I", Cond.methodLink RX4 118 yX4_inherit, Cond.instanceMethod yX4_inherit, Cond.selects RX4 yX4_inherit yX4_inherit, Cond.code yX4_inherit cX4_inherit 3 none, Cond.fieldLink RX4 39 "ConkerHeirs$State" "smashedBy" "[I", Cond.methodLink RX4 95 yX4_fallIfWorn, Cond.instanceMethod yX4_fallIfWorn, Cond.selects RX4 yX4_fallIfWorn yX4_fallIfWorn, Cond.code yX4_fallIfWorn cX4_fallIfWorn 2 none, Cond.methodLink RX4 99 yX4_outcome, Cond.instanceMethod yX4_outcome, Cond.selects RX4 yX4_outcome yX4_outcome, Cond.code yX4_outcome cX4_outcome 4 (some .int)]
def wsX4_hit : List Cond := .code yX4_hit cX4_hit 6 (some .int) :: ((wsX4_hit_r1 ++ wsX4_hit_r2) ++ wsX40)
def wsX4_fight_r1 : List Cond := [Cond.methodLink RX4 86 Lib.Math.min.name, Cond.static Lib.Math.min.name, Cond.initialized "java/lang/Math", Cond.code Lib.Math.min.name Lib.Math.min.code 2 (some .int), Cond.methodLink RX4 103 Lib.Math.max.name, Cond.static Lib.Math.max.name, Cond.code Lib.Math.max.name Lib.Math.max.code 2 (some .int), Cond.methodLink RX4 71 yX4_areInPlay, Cond.instanceMethod yX4_areInPlay, Cond.selects RX4 yX4_areInPlay yX4_areInPlay, Cond.initialized RX4, Cond.code yX4_areInPlay cX4_areInPlay 3 (some .boolean), Cond.fieldLink RX4 36 "ConkerHeirs$State" "how" "[I", Cond.methodLink RX4 106 yX0_swing, Cond.instanceMethod yX0_swing, Cond.selects RX0 yX0_swing yX0_swing, Cond.initialized RX0, Cond.code yX0_swing cX0_swing 1 (some .int), Cond.methodLink RX0 14 yX0_next, Cond.instanceMethod yX0_next, Cond.selects RX0 yX0_next yX0_next, Cond.code yX0_next cX0_next 1 (some .int), Cond.fieldLink RX0 7 "ConkerHeirs$Draws" "x" "I", Cond.constant RX0 13 (65536)]
def wsX4_fight_r2 : List Cond := [Cond.methodLink RX4 112 yX4_hit, Cond.instanceMethod yX4_hit, Cond.selects RX4 yX4_hit yX4_hit, Cond.code yX4_hit cX4_hit 6 (some .int), Cond.fieldLink RX4 21 "ConkerHeirs$State" "hardness" "[I", Cond.fieldLink RX4 49 "ConkerHeirs$State" "strikes" "I", Cond.fieldLink RX4 24 "ConkerHeirs$State" "crack" "[I", Cond.fieldLink RX4 27 "ConkerHeirs$State" "wear" "[I", Cond.methodLink RX4 82 yX4_quotient, Cond.static yX4_quotient, Cond.code yX4_quotient cX4_quotient 2 (some .int), Cond.methodLink RX4 91 yX4_settleSmashes, Cond.instanceMethod yX4_settleSmashes, Cond.selects RX4 yX4_settleSmashes yX4_settleSmashes, Cond.code yX4_settleSmashes cX4_settleSmashes 5 none, Cond.methodLink RX4 115 yX4_crush, Cond.instanceMethod yX4_crush, Cond.selects RX4 yX4_crush yX4_crush, Cond.code yX4_crush cX4_crush 3 (some .int), Cond.fieldLink RX4 46 "ConkerHeirs$State" "lostVictories" "I", Cond.methodLink RX4 79 yX4_takeVictoriesOfSmashed, Cond.instanceMethod yX4_takeVictoriesOfSmashed, Cond.selects RX4 yX4_takeVictoriesOfSmashed yX4_takeVictoriesOfSmashed, Cond.code yX4_takeVictoriesOfSmashed cX4_takeVictoriesOfSmashed 3 (some .int)]
def wsX4_fight_r3 : List Cond := [Cond.fieldLink RX4 30 "ConkerHeirs$State" "victories" "[I", Cond.fieldLink RX4 33 "ConkerHeirs$State" "boasts" "[I", Cond.methodLink RX4 118 yX4_inherit, Cond.instanceMethod yX4_inherit, Cond.selects RX4 yX4_inherit yX4_inherit, Cond.code yX4_inherit cX4_inherit 3 none, Cond.fieldLink RX4 39 "ConkerHeirs$State" "smashedBy" "[I", Cond.methodLink RX4 95 yX4_fallIfWorn, Cond.instanceMethod yX4_fallIfWorn, Cond.selects RX4 yX4_fallIfWorn yX4_fallIfWorn, Cond.code yX4_fallIfWorn cX4_fallIfWorn 2 none, Cond.methodLink RX4 99 yX4_outcome, Cond.instanceMethod yX4_outcome, Cond.selects RX4 yX4_outcome yX4_outcome, Cond.code yX4_outcome cX4_outcome 4 (some .int)]
def wsX4_fight : List Cond := .code yX4_fight cX4_fight 8 (some .int) :: ((wsX4_fight_r1 ++ (wsX4_fight_r2 ++ wsX4_fight_r3)) ++ wsX40 ++ wsX00)
def wsX4_isOf : List Cond := .code yX4_isOf cX4_isOf 3 (some .boolean) :: ([.fieldLink RX4 18 "ConkerHeirs$State" "owner" "[I"] ++ wsX40)
def wsX4_conkersBeing : List Cond := .code yX4_conkersBeing cX4_conkersBeing 5 (some .int) :: ([.fieldLink RX4 42 "ConkerHeirs$State" "conkers" "I", .fieldLink RX4 36 "ConkerHeirs$State" "how" "[I", .methodLink RX4 121 yX4_isOf, .instanceMethod yX4_isOf, .selects RX4 yX4_isOf yX4_isOf, .initialized RX4, .code yX4_isOf cX4_isOf 3 (some .boolean), .fieldLink RX4 18 "ConkerHeirs$State" "owner" "[I"] ++ wsX40)
def wsX4_victoriesOf : List Cond := .code yX4_victoriesOf cX4_victoriesOf 4 (some .int) :: ([.fieldLink RX4 42 "ConkerHeirs$State" "conkers" "I", .fieldLink RX4 30 "ConkerHeirs$State" "victories" "[I", .methodLink RX4 121 yX4_isOf, .instanceMethod yX4_isOf, .selects RX4 yX4_isOf yX4_isOf, .initialized RX4, .code yX4_isOf cX4_isOf 3 (some .boolean), .fieldLink RX4 18 "ConkerHeirs$State" "owner" "[I"] ++ wsX40)
def wsX4_conkersAheadOf : List Cond := .code yX4_conkersAheadOf cX4_conkersAheadOf 6 (some .int) :: ([.fieldLink RX4 42 "ConkerHeirs$State" "conkers" "I", .fieldLink RX4 30 "ConkerHeirs$State" "victories" "[I", .fieldLink RX4 36 "ConkerHeirs$State" "how" "[I"] ++ wsX40)
def wsX4_conkerAtRank : List Cond := .code yX4_conkerAtRank cX4_conkerAtRank 3 (some .int) :: ([.fieldLink RX4 42 "ConkerHeirs$State" "conkers" "I", .fieldLink RX4 36 "ConkerHeirs$State" "how" "[I", .methodLink RX4 124 yX4_conkersAheadOf, .instanceMethod yX4_conkersAheadOf, .selects RX4 yX4_conkersAheadOf yX4_conkersAheadOf, .initialized RX4, .code yX4_conkersAheadOf cX4_conkersAheadOf 6 (some .int), .fieldLink RX4 30 "ConkerHeirs$State" "victories" "[I"] ++ wsX40)
def wsX4_conkersSmashedBy : List Cond := .code yX4_conkersSmashedBy cX4_conkersSmashedBy 4 (some .int) :: ([.fieldLink RX4 42 "ConkerHeirs$State" "conkers" "I", .fieldLink RX4 39 "ConkerHeirs$State" "smashedBy" "[I"] ++ wsX40)
def wsX4_conkersWithHeir : List Cond := .code yX4_conkersWithHeir cX4_conkersWithHeir 1 (some .int) :: ([.fieldLink RX4 42 "ConkerHeirs$State" "conkers" "I", .methodLink RX4 127 yX4_conkersSmashedBy, .instanceMethod yX4_conkersSmashedBy, .selects RX4 yX4_conkersSmashedBy yX4_conkersSmashedBy, .initialized RX4, .code yX4_conkersSmashedBy cX4_conkersSmashedBy 4 (some .int), .fieldLink RX4 39 "ConkerHeirs$State" "smashedBy" "[I"] ++ wsX40)
def wsX4_isInLineOf : List Cond := .code yX4_isInLineOf cX4_isInLineOf 5 (some .boolean) :: ([.fieldLink RX4 39 "ConkerHeirs$State" "smashedBy" "[I", .fieldLink RX4 42 "ConkerHeirs$State" "conkers" "I", .methodLink RX4 67 yX4_hasConker, .instanceMethod yX4_hasConker, .selects RX4 yX4_hasConker yX4_hasConker, .initialized RX4, .code yX4_hasConker cX4_hasConker 2 (some .boolean), .static yX5_isWithin, .initialized RX5, .code yX5_isWithin cX5_isWithin 3 (some .boolean)] ++ wsX40)
def wsX4_lengthOfLine : List Cond := .code yX4_lengthOfLine cX4_lengthOfLine 4 (some .int) :: ([.fieldLink RX4 42 "ConkerHeirs$State" "conkers" "I", .methodLink RX4 130 yX4_isInLineOf, .instanceMethod yX4_isInLineOf, .selects RX4 yX4_isInLineOf yX4_isInLineOf, .initialized RX4, .code yX4_isInLineOf cX4_isInLineOf 5 (some .boolean), .fieldLink RX4 39 "ConkerHeirs$State" "smashedBy" "[I", .methodLink RX4 67 yX4_hasConker, .instanceMethod yX4_hasConker, .selects RX4 yX4_hasConker yX4_hasConker, .code yX4_hasConker cX4_hasConker 2 (some .boolean), .static yX5_isWithin, .initialized RX5, .code yX5_isWithin cX5_isWithin 3 (some .boolean)] ++ wsX40)
def wsX4_boastsTold : List Cond := .code yX4_boastsTold cX4_boastsTold 3 (some .int) :: ([.fieldLink RX4 42 "ConkerHeirs$State" "conkers" "I", .fieldLink RX4 33 "ConkerHeirs$State" "boasts" "[I"] ++ wsX40)
def wsX4_boastsTooHigh : List Cond := .code yX4_boastsTooHigh cX4_boastsTooHigh 3 (some .int) :: ([.fieldLink RX4 42 "ConkerHeirs$State" "conkers" "I", .fieldLink RX4 33 "ConkerHeirs$State" "boasts" "[I", .fieldLink RX4 30 "ConkerHeirs$State" "victories" "[I"] ++ wsX40)
def wsX5_init_r1 : List Cond := [Cond.methodLink RX5 1 objectInit, Cond.instanceMethod objectInit, Cond.code objectInit ⟨#[0xb1]⟩ 1 none, Cond.classLink RX5 7 RX4, Cond.instantiable RX4 13, Cond.initialized RX4, Cond.fieldLink RX5 10 "ConkerHeirs" "now" "LConkerHeirs$State;", Cond.fieldLink RX5 16 "ConkerHeirs" "snapshot" "LConkerHeirs$State;", Cond.fieldLink RX5 19 "ConkerHeirs" "trial" "LConkerHeirs$State;", Cond.classLink RX5 22 RX1, Cond.instantiable RX1 2, Cond.initialized RX1, Cond.fieldLink RX5 25 "ConkerHeirs" "history" "LConkerHeirs$History;", Cond.classLink RX5 29 RX3, Cond.instantiable RX3 7, Cond.initialized RX3, Cond.fieldLink RX5 32 "ConkerHeirs" "script" "LConkerHeirs$Script;", Cond.classLink RX5 36 RX0, Cond.instantiable RX0 1, Cond.initialized RX0, Cond.fieldLink RX5 39 "ConkerHeirs" "draws" "LConkerHeirs$Draws;", Cond.classLink RX5 43 RX2, Cond.instantiable RX2 2, Cond.initialized RX2]
def wsX5_init_r2 : List Cond := [Cond.fieldLink RX5 46 "ConkerHeirs" "row" "LConkerHeirs$Row;", Cond.fieldLink RX5 50 "ConkerHeirs" "hasSnapshot" "Z", Cond.methodLink RX5 9 yX4_init, Cond.instanceMethod yX4_init, Cond.code yX4_init cX4_init 2 none, Cond.methodLink RX4 3 objectInit, Cond.arrayClass .int, Cond.fieldLink RX4 9 "ConkerHeirs$State" "strings" "[I", Cond.fieldLink RX4 15 "ConkerHeirs$State" "shame" "[I", Cond.fieldLink RX4 18 "ConkerHeirs$State" "owner" "[I", Cond.fieldLink RX4 21 "ConkerHeirs$State" "hardness" "[I", Cond.fieldLink RX4 24 "ConkerHeirs$State" "crack" "[I", Cond.fieldLink RX4 27 "ConkerHeirs$State" "wear" "[I", Cond.fieldLink RX4 30 "ConkerHeirs$State" "victories" "[I", Cond.fieldLink RX4 33 "ConkerHeirs$State" "boasts" "[I", Cond.fieldLink RX4 36 "ConkerHeirs$State" "how" "[I", Cond.fieldLink RX4 39 "ConkerHeirs$State" "smashedBy" "[I", Cond.fieldLink RX4 42 "ConkerHeirs$State" "conkers" "I", Cond.fieldLink RX4 46 "ConkerHeirs$State" "lostVictories" "I", Cond.fieldLink RX4 49 "ConkerHeirs$State" "strikes" "I", Cond.methodLink RX5 24 yX1_init, Cond.instanceMethod yX1_init, Cond.code yX1_init cX1_init 2 none, Cond.methodLink RX1 3 objectInit]
def wsX5_init_r3 : List Cond := [Cond.classLink RX1 9 RX4, Cond.fieldLink RX1 11 "ConkerHeirs$History" "states" "[LConkerHeirs$State;", Cond.fieldLink RX1 17 "ConkerHeirs$History" "held" "I", Cond.methodLink RX1 21 yX4_init, Cond.instanceMethod yX3_init, Cond.code yX3_init cX3_init 1 none, Cond.methodLink RX3 3 objectInit, Cond.arrayClass .char, Cond.fieldLink RX3 9 "ConkerHeirs$Script" "signs" "[C", Cond.fieldLink RX3 15 "ConkerHeirs$Script" "length" "I", Cond.fieldLink RX3 19 "ConkerHeirs$Script" "at" "I", Cond.fieldLink RX3 22 "ConkerHeirs$Script" "kind" "C", Cond.fieldLink RX3 26 "ConkerHeirs$Script" "first" "I", Cond.fieldLink RX3 29 "ConkerHeirs$Script" "second" "I", Cond.fieldLink RX3 32 "ConkerHeirs$Script" "swing" "I", Cond.instanceMethod yX0_init, Cond.code yX0_init cX0_init 1 none, Cond.methodLink RX0 1 objectInit, Cond.fieldLink RX0 7 "ConkerHeirs$Draws" "x" "I", Cond.instanceMethod yX2_init, Cond.code yX2_init cX2_init 1 none, Cond.methodLink RX2 3 objectInit, Cond.fieldLink RX2 9 "ConkerHeirs$Row" "conkers" "[I", Cond.fieldLink RX2 15 "ConkerHeirs$Row" "length" "I"]
def wsX5_init : List Cond := .code yX5_init cX5_init 1 none :: ((wsX5_init_r1 ++ (wsX5_init_r2 ++ wsX5_init_r3)) ++ wsX40 ++ wsX50 ++ wsX10 ++ wsX30 ++ wsX00 ++ wsX20)
def wsX5_isPlayer : List Cond := .code yX5_isPlayer cX5_isPlayer 1 (some .boolean) :: ([.methodLink RX5 58 yX5_isWithin, .static yX5_isWithin, .initialized RX5, .code yX5_isWithin cX5_isWithin 3 (some .boolean)])
def wsX5_thread_r1 : List Cond := [Cond.fieldLink RX5 10 "ConkerHeirs" "now" "LConkerHeirs$State;", Cond.fieldLink RX5 62 "ConkerHeirs$State" "strings" "[I", Cond.fieldLink RX5 66 "ConkerHeirs$State" "conkers" "I", Cond.fieldLink RX5 25 "ConkerHeirs" "history" "LConkerHeirs$History;", Cond.methodLink RX5 54 yX5_isPlayer, Cond.static yX5_isPlayer, Cond.initialized RX5, Cond.code yX5_isPlayer cX5_isPlayer 1 (some .boolean), Cond.methodLink RX5 58 yX5_isWithin, Cond.static yX5_isWithin, Cond.code yX5_isWithin cX5_isWithin 3 (some .boolean), Cond.methodLink RX5 70 yX1_keep, Cond.instanceMethod yX1_keep, Cond.selects RX1 yX1_keep yX1_keep, Cond.initialized RX1, Cond.code yX1_keep cX1_keep 2 none, Cond.fieldLink RX1 17 "ConkerHeirs$History" "held" "I", Cond.fieldLink RX1 11 "ConkerHeirs$History" "states" "[LConkerHeirs$State;", Cond.methodLink RX1 22 yX1_dropOldest, Cond.instanceMethod yX1_dropOldest, Cond.selects RX1 yX1_dropOldest yX1_dropOldest, Cond.code yX1_dropOldest cX1_dropOldest 3 none, Cond.methodLink RX1 25 yX4_copyFrom, Cond.instanceMethod yX4_copyFrom]
def wsX5_thread_r2 : List Cond := [Cond.selects RX4 yX4_copyFrom yX4_copyFrom, Cond.initialized RX4, Cond.code yX4_copyFrom cX4_copyFrom 2 none, Cond.fieldLink RX4 9 "ConkerHeirs$State" "strings" "[I", Cond.methodLink RX4 52 arraycopyName, Cond.native arraycopyName, Cond.static arraycopyName, Cond.initialized "java/lang/System", Cond.fieldLink RX4 15 "ConkerHeirs$State" "shame" "[I", Cond.fieldLink RX4 18 "ConkerHeirs$State" "owner" "[I", Cond.fieldLink RX4 21 "ConkerHeirs$State" "hardness" "[I", Cond.fieldLink RX4 24 "ConkerHeirs$State" "crack" "[I", Cond.fieldLink RX4 27 "ConkerHeirs$State" "wear" "[I", Cond.fieldLink RX4 30 "ConkerHeirs$State" "victories" "[I", Cond.fieldLink RX4 33 "ConkerHeirs$State" "boasts" "[I", Cond.fieldLink RX4 36 "ConkerHeirs$State" "how" "[I", Cond.fieldLink RX4 39 "ConkerHeirs$State" "smashedBy" "[I", Cond.fieldLink RX4 42 "ConkerHeirs$State" "conkers" "I", Cond.fieldLink RX4 46 "ConkerHeirs$State" "lostVictories" "I", Cond.fieldLink RX4 49 "ConkerHeirs$State" "strikes" "I", Cond.methodLink RX5 74 yX4_addConker, Cond.instanceMethod yX4_addConker, Cond.selects RX4 yX4_addConker yX4_addConker, Cond.code yX4_addConker cX4_addConker 4 (some .int)]
def wsX5_thread : List Cond := .code yX5_thread cX5_thread 3 (some .int) :: ((wsX5_thread_r1 ++ wsX5_thread_r2) ++ wsX50 ++ wsX40 ++ wsX10)
def wsX5_give_r1 : List Cond := [Cond.fieldLink RX5 10 "ConkerHeirs" "now" "LConkerHeirs$State;", Cond.fieldLink RX5 62 "ConkerHeirs$State" "strings" "[I", Cond.fieldLink RX5 25 "ConkerHeirs" "history" "LConkerHeirs$History;", Cond.methodLink RX5 54 yX5_isPlayer, Cond.static yX5_isPlayer, Cond.initialized RX5, Cond.code yX5_isPlayer cX5_isPlayer 1 (some .boolean), Cond.methodLink RX5 58 yX5_isWithin, Cond.static yX5_isWithin, Cond.code yX5_isWithin cX5_isWithin 3 (some .boolean), Cond.methodLink RX5 70 yX1_keep, Cond.instanceMethod yX1_keep, Cond.selects RX1 yX1_keep yX1_keep, Cond.initialized RX1, Cond.code yX1_keep cX1_keep 2 none, Cond.fieldLink RX1 17 "ConkerHeirs$History" "held" "I", Cond.fieldLink RX1 11 "ConkerHeirs$History" "states" "[LConkerHeirs$State;", Cond.methodLink RX1 22 yX1_dropOldest, Cond.instanceMethod yX1_dropOldest, Cond.selects RX1 yX1_dropOldest yX1_dropOldest, Cond.code yX1_dropOldest cX1_dropOldest 3 none, Cond.methodLink RX1 25 yX4_copyFrom, Cond.instanceMethod yX4_copyFrom, Cond.selects RX4 yX4_copyFrom yX4_copyFrom]
def wsX5_give_r2 : List Cond := [Cond.initialized RX4, Cond.code yX4_copyFrom cX4_copyFrom 2 none, Cond.fieldLink RX4 9 "ConkerHeirs$State" "strings" "[I", Cond.methodLink RX4 52 arraycopyName, Cond.native arraycopyName, Cond.static arraycopyName, Cond.initialized "java/lang/System", Cond.fieldLink RX4 15 "ConkerHeirs$State" "shame" "[I", Cond.fieldLink RX4 18 "ConkerHeirs$State" "owner" "[I", Cond.fieldLink RX4 21 "ConkerHeirs$State" "hardness" "[I", Cond.fieldLink RX4 24 "ConkerHeirs$State" "crack" "[I", Cond.fieldLink RX4 27 "ConkerHeirs$State" "wear" "[I", Cond.fieldLink RX4 30 "ConkerHeirs$State" "victories" "[I", Cond.fieldLink RX4 33 "ConkerHeirs$State" "boasts" "[I", Cond.fieldLink RX4 36 "ConkerHeirs$State" "how" "[I", Cond.fieldLink RX4 39 "ConkerHeirs$State" "smashedBy" "[I", Cond.fieldLink RX4 42 "ConkerHeirs$State" "conkers" "I", Cond.fieldLink RX4 46 "ConkerHeirs$State" "lostVictories" "I", Cond.fieldLink RX4 49 "ConkerHeirs$State" "strikes" "I"]
def wsX5_give : List Cond := .code yX5_give cX5_give 3 (some .int) :: ((wsX5_give_r1 ++ wsX5_give_r2) ++ wsX50 ++ wsX40 ++ wsX10)
def wsX5_strike_r1 : List Cond := [Cond.fieldLink RX5 10 "ConkerHeirs" "now" "LConkerHeirs$State;", Cond.fieldLink RX5 25 "ConkerHeirs" "history" "LConkerHeirs$History;", Cond.methodLink RX5 78 yX4_strikeError, Cond.instanceMethod yX4_strikeError, Cond.selects RX4 yX4_strikeError yX4_strikeError, Cond.initialized RX4, Cond.code yX4_strikeError cX4_strikeError 4 (some .int), Cond.static yX5_isWithin, Cond.initialized RX5, Cond.code yX5_isWithin cX5_isWithin 3 (some .boolean), Cond.methodLink RX4 62 yX4_pairError, Cond.instanceMethod yX4_pairError, Cond.selects RX4 yX4_pairError yX4_pairError, Cond.code yX4_pairError cX4_pairError 4 (some .int), Cond.fieldLink RX4 18 "ConkerHeirs$State" "owner" "[I", Cond.methodLink RX4 67 yX4_hasConker, Cond.instanceMethod yX4_hasConker, Cond.selects RX4 yX4_hasConker yX4_hasConker, Cond.code yX4_hasConker cX4_hasConker 2 (some .boolean), Cond.fieldLink RX4 42 "ConkerHeirs$State" "conkers" "I", Cond.methodLink RX4 71 yX4_areInPlay, Cond.instanceMethod yX4_areInPlay, Cond.selects RX4 yX4_areInPlay yX4_areInPlay, Cond.code yX4_areInPlay cX4_areInPlay 3 (some .boolean)]
def wsX5_strike_r2 : List Cond := [Cond.fieldLink RX4 36 "ConkerHeirs$State" "how" "[I", Cond.methodLink RX5 70 yX1_keep, Cond.instanceMethod yX1_keep, Cond.selects RX1 yX1_keep yX1_keep, Cond.initialized RX1, Cond.code yX1_keep cX1_keep 2 none, Cond.fieldLink RX1 17 "ConkerHeirs$History" "held" "I", Cond.fieldLink RX1 11 "ConkerHeirs$History" "states" "[LConkerHeirs$State;", Cond.methodLink RX1 22 yX1_dropOldest, Cond.instanceMethod yX1_dropOldest, Cond.selects RX1 yX1_dropOldest yX1_dropOldest, Cond.code yX1_dropOldest cX1_dropOldest 3 none, Cond.methodLink RX1 25 yX4_copyFrom, Cond.instanceMethod yX4_copyFrom, Cond.selects RX4 yX4_copyFrom yX4_copyFrom, Cond.code yX4_copyFrom cX4_copyFrom 2 none, Cond.fieldLink RX4 9 "ConkerHeirs$State" "strings" "[I", Cond.methodLink RX4 52 arraycopyName, Cond.native arraycopyName, Cond.static arraycopyName, Cond.initialized "java/lang/System", Cond.fieldLink RX4 15 "ConkerHeirs$State" "shame" "[I", Cond.fieldLink RX4 21 "ConkerHeirs$State" "hardness" "[I", Cond.fieldLink RX4 24 "ConkerHeirs$State" "crack" "[I"]
def wsX5_strike_r3 : List Cond := [Cond.fieldLink RX4 27 "ConkerHeirs$State" "wear" "[I", Cond.fieldLink RX4 30 "ConkerHeirs$State" "victories" "[I", Cond.fieldLink RX4 33 "ConkerHeirs$State" "boasts" "[I", Cond.fieldLink RX4 39 "ConkerHeirs$State" "smashedBy" "[I", Cond.fieldLink RX4 46 "ConkerHeirs$State" "lostVictories" "I", Cond.fieldLink RX4 49 "ConkerHeirs$State" "strikes" "I", Cond.methodLink RX5 82 yX4_hit, Cond.instanceMethod yX4_hit, Cond.selects RX4 yX4_hit yX4_hit, Cond.code yX4_hit cX4_hit 6 (some .int), Cond.methodLink RX4 86 Lib.Math.min.name, Cond.static Lib.Math.min.name, Cond.initialized "java/lang/Math", Cond.code Lib.Math.min.name Lib.Math.min.code 2 (some .int), Cond.methodLink RX4 82 yX4_quotient, Cond.static yX4_quotient, Cond.code yX4_quotient cX4_quotient 2 (some .int), Cond.methodLink RX4 91 yX4_settleSmashes, Cond.instanceMethod yX4_settleSmashes, Cond.selects RX4 yX4_settleSmashes yX4_settleSmashes, Cond.code yX4_settleSmashes cX4_settleSmashes 5 none, Cond.methodLink RX4 115 yX4_crush, Cond.instanceMethod yX4_crush, Cond.selects RX4 yX4_crush yX4_crush]
def wsX5_strike_r4 : List Cond := [Cond.code yX4_crush cX4_crush 3 (some .int), Cond.methodLink RX4 79 yX4_takeVictoriesOfSmashed, Cond.instanceMethod yX4_takeVictoriesOfSmashed, Cond.selects RX4 yX4_takeVictoriesOfSmashed yX4_takeVictoriesOfSmashed, Cond.code yX4_takeVictoriesOfSmashed cX4_takeVictoriesOfSmashed 3 (some .int), Cond.methodLink RX4 118 yX4_inherit, Cond.instanceMethod yX4_inherit, Cond.selects RX4 yX4_inherit yX4_inherit, Cond.code yX4_inherit cX4_inherit 3 none, Cond.methodLink RX4 95 yX4_fallIfWorn, Cond.instanceMethod yX4_fallIfWorn, Cond.selects RX4 yX4_fallIfWorn yX4_fallIfWorn, Cond.code yX4_fallIfWorn cX4_fallIfWorn 2 none, Cond.methodLink RX4 99 yX4_outcome, Cond.instanceMethod yX4_outcome, Cond.selects RX4 yX4_outcome yX4_outcome, Cond.code yX4_outcome cX4_outcome 4 (some .int)]
def wsX5_strike : List Cond := .code yX5_strike cX5_strike 5 (some .int) :: ((wsX5_strike_r1 ++ (wsX5_strike_r2 ++ (wsX5_strike_r3 ++ wsX5_strike_r4))) ++ wsX50 ++ wsX40 ++ wsX10)
def wsX5_mend_r1 : List Cond := [Cond.fieldLink RX5 10 "ConkerHeirs" "now" "LConkerHeirs$State;", Cond.fieldLink RX5 25 "ConkerHeirs" "history" "LConkerHeirs$History;", Cond.methodLink RX5 85 yX4_mendError, Cond.instanceMethod yX4_mendError, Cond.selects RX4 yX4_mendError yX4_mendError, Cond.initialized RX4, Cond.code yX4_mendError cX4_mendError 3 (some .int), Cond.fieldLink RX4 9 "ConkerHeirs$State" "strings" "[I", Cond.fieldLink RX4 18 "ConkerHeirs$State" "owner" "[I", Cond.methodLink RX4 75 yX4_fallenError, Cond.instanceMethod yX4_fallenError, Cond.selects RX4 yX4_fallenError yX4_fallenError, Cond.code yX4_fallenError cX4_fallenError 2 (some .int), Cond.fieldLink RX4 36 "ConkerHeirs$State" "how" "[I", Cond.methodLink RX4 67 yX4_hasConker, Cond.instanceMethod yX4_hasConker, Cond.selects RX4 yX4_hasConker yX4_hasConker, Cond.code yX4_hasConker cX4_hasConker 2 (some .boolean), Cond.fieldLink RX4 42 "ConkerHeirs$State" "conkers" "I", Cond.static yX5_isWithin, Cond.initialized RX5, Cond.code yX5_isWithin cX5_isWithin 3 (some .boolean), Cond.methodLink RX5 70 yX1_keep, Cond.instanceMethod yX1_keep]
def wsX5_mend_r2 : List Cond := [Cond.selects RX1 yX1_keep yX1_keep, Cond.initialized RX1, Cond.code yX1_keep cX1_keep 2 none, Cond.fieldLink RX1 17 "ConkerHeirs$History" "held" "I", Cond.fieldLink RX1 11 "ConkerHeirs$History" "states" "[LConkerHeirs$State;", Cond.methodLink RX1 22 yX1_dropOldest, Cond.instanceMethod yX1_dropOldest, Cond.selects RX1 yX1_dropOldest yX1_dropOldest, Cond.code yX1_dropOldest cX1_dropOldest 3 none, Cond.methodLink RX1 25 yX4_copyFrom, Cond.instanceMethod yX4_copyFrom, Cond.selects RX4 yX4_copyFrom yX4_copyFrom, Cond.code yX4_copyFrom cX4_copyFrom 2 none, Cond.methodLink RX4 52 arraycopyName, Cond.native arraycopyName, Cond.static arraycopyName, Cond.initialized "java/lang/System", Cond.fieldLink RX4 15 "ConkerHeirs$State" "shame" "[I", Cond.fieldLink RX4 21 "ConkerHeirs$State" "hardness" "[I", Cond.fieldLink RX4 24 "ConkerHeirs$State" "crack" "[I", Cond.fieldLink RX4 27 "ConkerHeirs$State" "wear" "[I", Cond.fieldLink RX4 30 "ConkerHeirs$State" "victories" "[I", Cond.fieldLink RX4 33 "ConkerHeirs$State" "boasts" "[I", Cond.fieldLink RX4 39 "ConkerHeirs$State" "smashedBy" "[I"]
def wsX5_mend_r3 : List Cond := [Cond.fieldLink RX4 46 "ConkerHeirs$State" "lostVictories" "I", Cond.fieldLink RX4 49 "ConkerHeirs$State" "strikes" "I", Cond.methodLink RX5 89 yX4_threadAgain, Cond.instanceMethod yX4_threadAgain, Cond.selects RX4 yX4_threadAgain yX4_threadAgain, Cond.code yX4_threadAgain cX4_threadAgain 3 (some .int)]
def wsX5_mend : List Cond := .code yX5_mend cX5_mend 3 (some .int) :: ((wsX5_mend_r1 ++ (wsX5_mend_r2 ++ wsX5_mend_r3)) ++ wsX50 ++ wsX40 ++ wsX10)
def wsX5_stamp_r1 : List Cond := [Cond.fieldLink RX5 10 "ConkerHeirs" "now" "LConkerHeirs$State;", Cond.fieldLink RX5 25 "ConkerHeirs" "history" "LConkerHeirs$History;", Cond.methodLink RX5 92 yX4_fallenError, Cond.instanceMethod yX4_fallenError, Cond.selects RX4 yX4_fallenError yX4_fallenError, Cond.initialized RX4, Cond.code yX4_fallenError cX4_fallenError 2 (some .int), Cond.fieldLink RX4 36 "ConkerHeirs$State" "how" "[I", Cond.methodLink RX4 67 yX4_hasConker, Cond.instanceMethod yX4_hasConker, Cond.selects RX4 yX4_hasConker yX4_hasConker, Cond.code yX4_hasConker cX4_hasConker 2 (some .boolean), Cond.fieldLink RX4 42 "ConkerHeirs$State" "conkers" "I", Cond.static yX5_isWithin, Cond.initialized RX5, Cond.code yX5_isWithin cX5_isWithin 3 (some .boolean), Cond.methodLink RX5 70 yX1_keep, Cond.instanceMethod yX1_keep, Cond.selects RX1 yX1_keep yX1_keep, Cond.initialized RX1, Cond.code yX1_keep cX1_keep 2 none, Cond.fieldLink RX1 17 "ConkerHeirs$History" "held" "I", Cond.fieldLink RX1 11 "ConkerHeirs$History" "states" "[LConkerHeirs$State;", Cond.methodLink RX1 22 yX1_dropOldest]
def wsX5_stamp_r2 : List Cond := [Cond.instanceMethod yX1_dropOldest, Cond.selects RX1 yX1_dropOldest yX1_dropOldest, Cond.code yX1_dropOldest cX1_dropOldest 3 none, Cond.methodLink RX1 25 yX4_copyFrom, Cond.instanceMethod yX4_copyFrom, Cond.selects RX4 yX4_copyFrom yX4_copyFrom, Cond.code yX4_copyFrom cX4_copyFrom 2 none, Cond.fieldLink RX4 9 "ConkerHeirs$State" "strings" "[I", Cond.methodLink RX4 52 arraycopyName, Cond.native arraycopyName, Cond.static arraycopyName, Cond.initialized "java/lang/System", Cond.fieldLink RX4 15 "ConkerHeirs$State" "shame" "[I", Cond.fieldLink RX4 18 "ConkerHeirs$State" "owner" "[I", Cond.fieldLink RX4 21 "ConkerHeirs$State" "hardness" "[I", Cond.fieldLink RX4 24 "ConkerHeirs$State" "crack" "[I", Cond.fieldLink RX4 27 "ConkerHeirs$State" "wear" "[I", Cond.fieldLink RX4 30 "ConkerHeirs$State" "victories" "[I", Cond.fieldLink RX4 33 "ConkerHeirs$State" "boasts" "[I", Cond.fieldLink RX4 39 "ConkerHeirs$State" "smashedBy" "[I", Cond.fieldLink RX4 46 "ConkerHeirs$State" "lostVictories" "I", Cond.fieldLink RX4 49 "ConkerHeirs$State" "strikes" "I", Cond.methodLink RX5 95 yX4_crush, Cond.instanceMethod yX4_crush]
def wsX5_stamp_r3 : List Cond := [Cond.selects RX4 yX4_crush yX4_crush, Cond.code yX4_crush cX4_crush 3 (some .int), Cond.methodLink RX4 79 yX4_takeVictoriesOfSmashed, Cond.instanceMethod yX4_takeVictoriesOfSmashed, Cond.selects RX4 yX4_takeVictoriesOfSmashed yX4_takeVictoriesOfSmashed, Cond.code yX4_takeVictoriesOfSmashed cX4_takeVictoriesOfSmashed 3 (some .int)]
def wsX5_stamp : List Cond := .code yX5_stamp cX5_stamp 3 (some .int) :: ((wsX5_stamp_r1 ++ (wsX5_stamp_r2 ++ wsX5_stamp_r3)) ++ wsX50 ++ wsX40 ++ wsX10)
def wsX5_boast_r1 : List Cond := [Cond.fieldLink RX5 10 "ConkerHeirs" "now" "LConkerHeirs$State;", Cond.fieldLink RX5 101 "ConkerHeirs$State" "how" "[I", Cond.fieldLink RX5 25 "ConkerHeirs" "history" "LConkerHeirs$History;", Cond.fieldLink RX5 104 "ConkerHeirs$State" "boasts" "[I", Cond.methodLink RX5 98 yX4_hasConker, Cond.instanceMethod yX4_hasConker, Cond.selects RX4 yX4_hasConker yX4_hasConker, Cond.initialized RX4, Cond.code yX4_hasConker cX4_hasConker 2 (some .boolean), Cond.fieldLink RX4 42 "ConkerHeirs$State" "conkers" "I", Cond.static yX5_isWithin, Cond.initialized RX5, Cond.code yX5_isWithin cX5_isWithin 3 (some .boolean), Cond.methodLink RX5 58 yX5_isWithin, Cond.methodLink RX5 70 yX1_keep, Cond.instanceMethod yX1_keep, Cond.selects RX1 yX1_keep yX1_keep, Cond.initialized RX1, Cond.code yX1_keep cX1_keep 2 none, Cond.fieldLink RX1 17 "ConkerHeirs$History" "held" "I", Cond.fieldLink RX1 11 "ConkerHeirs$History" "states" "[LConkerHeirs$State;", Cond.methodLink RX1 22 yX1_dropOldest, Cond.instanceMethod yX1_dropOldest, Cond.selects RX1 yX1_dropOldest yX1_dropOldest]
def wsX5_boast_r2 : List Cond := [Cond.code yX1_dropOldest cX1_dropOldest 3 none, Cond.methodLink RX1 25 yX4_copyFrom, Cond.instanceMethod yX4_copyFrom, Cond.selects RX4 yX4_copyFrom yX4_copyFrom, Cond.code yX4_copyFrom cX4_copyFrom 2 none, Cond.fieldLink RX4 9 "ConkerHeirs$State" "strings" "[I", Cond.methodLink RX4 52 arraycopyName, Cond.native arraycopyName, Cond.static arraycopyName, Cond.initialized "java/lang/System", Cond.fieldLink RX4 15 "ConkerHeirs$State" "shame" "[I", Cond.fieldLink RX4 18 "ConkerHeirs$State" "owner" "[I", Cond.fieldLink RX4 21 "ConkerHeirs$State" "hardness" "[I", Cond.fieldLink RX4 24 "ConkerHeirs$State" "crack" "[I", Cond.fieldLink RX4 27 "ConkerHeirs$State" "wear" "[I", Cond.fieldLink RX4 30 "ConkerHeirs$State" "victories" "[I", Cond.fieldLink RX4 33 "ConkerHeirs$State" "boasts" "[I", Cond.fieldLink RX4 36 "ConkerHeirs$State" "how" "[I", Cond.fieldLink RX4 39 "ConkerHeirs$State" "smashedBy" "[I", Cond.fieldLink RX4 46 "ConkerHeirs$State" "lostVictories" "I", Cond.fieldLink RX4 49 "ConkerHeirs$State" "strikes" "I"]
def wsX5_boast : List Cond := .code yX5_boast cX5_boast 4 (some .int) :: ((wsX5_boast_r1 ++ wsX5_boast_r2) ++ wsX50 ++ wsX40 ++ wsX10)
def wsX5_doubt_r1 : List Cond := [Cond.fieldLink RX5 10 "ConkerHeirs" "now" "LConkerHeirs$State;", Cond.fieldLink RX5 107 "ConkerHeirs$State" "owner" "[I", Cond.fieldLink RX5 104 "ConkerHeirs$State" "boasts" "[I", Cond.fieldLink RX5 25 "ConkerHeirs" "history" "LConkerHeirs$History;", Cond.methodLink RX5 54 yX5_isPlayer, Cond.static yX5_isPlayer, Cond.initialized RX5, Cond.code yX5_isPlayer cX5_isPlayer 1 (some .boolean), Cond.methodLink RX5 58 yX5_isWithin, Cond.static yX5_isWithin, Cond.code yX5_isWithin cX5_isWithin 3 (some .boolean), Cond.methodLink RX5 98 yX4_hasConker, Cond.instanceMethod yX4_hasConker, Cond.selects RX4 yX4_hasConker yX4_hasConker, Cond.initialized RX4, Cond.code yX4_hasConker cX4_hasConker 2 (some .boolean), Cond.fieldLink RX4 42 "ConkerHeirs$State" "conkers" "I", Cond.methodLink RX5 70 yX1_keep, Cond.instanceMethod yX1_keep, Cond.selects RX1 yX1_keep yX1_keep, Cond.initialized RX1, Cond.code yX1_keep cX1_keep 2 none, Cond.fieldLink RX1 17 "ConkerHeirs$History" "held" "I", Cond.fieldLink RX1 11 "ConkerHeirs$History" "states" "[LConkerHeirs$State;"]
def wsX5_doubt_r2 : List Cond := [Cond.methodLink RX1 22 yX1_dropOldest, Cond.instanceMethod yX1_dropOldest, Cond.selects RX1 yX1_dropOldest yX1_dropOldest, Cond.code yX1_dropOldest cX1_dropOldest 3 none, Cond.methodLink RX1 25 yX4_copyFrom, Cond.instanceMethod yX4_copyFrom, Cond.selects RX4 yX4_copyFrom yX4_copyFrom, Cond.code yX4_copyFrom cX4_copyFrom 2 none, Cond.fieldLink RX4 9 "ConkerHeirs$State" "strings" "[I", Cond.methodLink RX4 52 arraycopyName, Cond.native arraycopyName, Cond.static arraycopyName, Cond.initialized "java/lang/System", Cond.fieldLink RX4 15 "ConkerHeirs$State" "shame" "[I", Cond.fieldLink RX4 18 "ConkerHeirs$State" "owner" "[I", Cond.fieldLink RX4 21 "ConkerHeirs$State" "hardness" "[I", Cond.fieldLink RX4 24 "ConkerHeirs$State" "crack" "[I", Cond.fieldLink RX4 27 "ConkerHeirs$State" "wear" "[I", Cond.fieldLink RX4 30 "ConkerHeirs$State" "victories" "[I", Cond.fieldLink RX4 33 "ConkerHeirs$State" "boasts" "[I", Cond.fieldLink RX4 36 "ConkerHeirs$State" "how" "[I", Cond.fieldLink RX4 39 "ConkerHeirs$State" "smashedBy" "[I", Cond.fieldLink RX4 46 "ConkerHeirs$State" "lostVictories" "I", Cond.fieldLink RX4 49 "ConkerHeirs$State" "strikes" "I"]
def wsX5_doubt_r3 : List Cond := [Cond.methodLink RX5 110 yX4_settleBoast, Cond.instanceMethod yX4_settleBoast, Cond.selects RX4 yX4_settleBoast yX4_settleBoast, Cond.code yX4_settleBoast cX4_settleBoast 4 (some .int)]
def wsX5_doubt : List Cond := .code yX5_doubt cX5_doubt 3 (some .int) :: ((wsX5_doubt_r1 ++ (wsX5_doubt_r2 ++ wsX5_doubt_r3)) ++ wsX50 ++ wsX40 ++ wsX10)
def wsX5_bout_r1 : List Cond := [Cond.fieldLink RX5 10 "ConkerHeirs" "now" "LConkerHeirs$State;", Cond.fieldLink RX5 25 "ConkerHeirs" "history" "LConkerHeirs$History;", Cond.fieldLink RX5 39 "ConkerHeirs" "draws" "LConkerHeirs$Draws;", Cond.methodLink RX5 113 yX4_boutError, Cond.instanceMethod yX4_boutError, Cond.selects RX4 yX4_boutError yX4_boutError, Cond.initialized RX4, Cond.code yX4_boutError cX4_boutError 4 (some .int), Cond.constant RX4 66 (65535), Cond.static yX5_isWithin, Cond.initialized RX5, Cond.code yX5_isWithin cX5_isWithin 3 (some .boolean), Cond.methodLink RX4 62 yX4_pairError, Cond.instanceMethod yX4_pairError, Cond.selects RX4 yX4_pairError yX4_pairError, Cond.code yX4_pairError cX4_pairError 4 (some .int), Cond.fieldLink RX4 18 "ConkerHeirs$State" "owner" "[I", Cond.methodLink RX4 67 yX4_hasConker, Cond.instanceMethod yX4_hasConker, Cond.selects RX4 yX4_hasConker yX4_hasConker, Cond.code yX4_hasConker cX4_hasConker 2 (some .boolean), Cond.fieldLink RX4 42 "ConkerHeirs$State" "conkers" "I", Cond.methodLink RX4 71 yX4_areInPlay, Cond.instanceMethod yX4_areInPlay]
def wsX5_bout_r2 : List Cond := [Cond.selects RX4 yX4_areInPlay yX4_areInPlay, Cond.code yX4_areInPlay cX4_areInPlay 3 (some .boolean), Cond.fieldLink RX4 36 "ConkerHeirs$State" "how" "[I", Cond.methodLink RX5 70 yX1_keep, Cond.instanceMethod yX1_keep, Cond.selects RX1 yX1_keep yX1_keep, Cond.initialized RX1, Cond.code yX1_keep cX1_keep 2 none, Cond.fieldLink RX1 17 "ConkerHeirs$History" "held" "I", Cond.fieldLink RX1 11 "ConkerHeirs$History" "states" "[LConkerHeirs$State;", Cond.methodLink RX1 22 yX1_dropOldest, Cond.instanceMethod yX1_dropOldest, Cond.selects RX1 yX1_dropOldest yX1_dropOldest, Cond.code yX1_dropOldest cX1_dropOldest 3 none, Cond.methodLink RX1 25 yX4_copyFrom, Cond.instanceMethod yX4_copyFrom, Cond.selects RX4 yX4_copyFrom yX4_copyFrom, Cond.code yX4_copyFrom cX4_copyFrom 2 none, Cond.fieldLink RX4 9 "ConkerHeirs$State" "strings" "[I", Cond.methodLink RX4 52 arraycopyName, Cond.native arraycopyName, Cond.static arraycopyName, Cond.initialized "java/lang/System", Cond.fieldLink RX4 15 "ConkerHeirs$State" "shame" "[I"]
def wsX5_bout_r3 : List Cond := [Cond.fieldLink RX4 21 "ConkerHeirs$State" "hardness" "[I", Cond.fieldLink RX4 24 "ConkerHeirs$State" "crack" "[I", Cond.fieldLink RX4 27 "ConkerHeirs$State" "wear" "[I", Cond.fieldLink RX4 30 "ConkerHeirs$State" "victories" "[I", Cond.fieldLink RX4 33 "ConkerHeirs$State" "boasts" "[I", Cond.fieldLink RX4 39 "ConkerHeirs$State" "smashedBy" "[I", Cond.fieldLink RX4 46 "ConkerHeirs$State" "lostVictories" "I", Cond.fieldLink RX4 49 "ConkerHeirs$State" "strikes" "I", Cond.methodLink RX5 116 yX0_begin, Cond.instanceMethod yX0_begin, Cond.selects RX0 yX0_begin yX0_begin, Cond.initialized RX0, Cond.code yX0_begin cX0_begin 2 none, Cond.fieldLink RX0 7 "ConkerHeirs$Draws" "x" "I", Cond.methodLink RX5 120 yX4_fight, Cond.instanceMethod yX4_fight, Cond.selects RX4 yX4_fight yX4_fight, Cond.code yX4_fight cX4_fight 8 (some .int), Cond.methodLink RX4 86 Lib.Math.min.name, Cond.static Lib.Math.min.name, Cond.initialized "java/lang/Math", Cond.code Lib.Math.min.name Lib.Math.min.code 2 (some .int), Cond.methodLink RX4 103 Lib.Math.max.name, Cond.static Lib.Math.max.name]
def wsX5_bout_r4 : List Cond := [Cond.code Lib.Math.max.name Lib.Math.max.code 2 (some .int), Cond.methodLink RX4 106 yX0_swing, Cond.instanceMethod yX0_swing, Cond.selects RX0 yX0_swing yX0_swing, Cond.code yX0_swing cX0_swing 1 (some .int), Cond.methodLink RX0 14 yX0_next, Cond.instanceMethod yX0_next, Cond.selects RX0 yX0_next yX0_next, Cond.code yX0_next cX0_next 1 (some .int), Cond.constant RX0 13 (65536), Cond.methodLink RX4 112 yX4_hit, Cond.instanceMethod yX4_hit, Cond.selects RX4 yX4_hit yX4_hit, Cond.code yX4_hit cX4_hit 6 (some .int), Cond.methodLink RX4 82 yX4_quotient, Cond.static yX4_quotient, Cond.code yX4_quotient cX4_quotient 2 (some .int), Cond.methodLink RX4 91 yX4_settleSmashes, Cond.instanceMethod yX4_settleSmashes, Cond.selects RX4 yX4_settleSmashes yX4_settleSmashes, Cond.code yX4_settleSmashes cX4_settleSmashes 5 none, Cond.methodLink RX4 115 yX4_crush, Cond.instanceMethod yX4_crush, Cond.selects RX4 yX4_crush yX4_crush]
def wsX5_bout_r5 : List Cond := [Cond.code yX4_crush cX4_crush 3 (some .int), Cond.methodLink RX4 79 yX4_takeVictoriesOfSmashed, Cond.instanceMethod yX4_takeVictoriesOfSmashed, Cond.selects RX4 yX4_takeVictoriesOfSmashed yX4_takeVictoriesOfSmashed, Cond.code yX4_takeVictoriesOfSmashed cX4_takeVictoriesOfSmashed 3 (some .int), Cond.methodLink RX4 118 yX4_inherit, Cond.instanceMethod yX4_inherit, Cond.selects RX4 yX4_inherit yX4_inherit, Cond.code yX4_inherit cX4_inherit 3 none, Cond.methodLink RX4 95 yX4_fallIfWorn, Cond.instanceMethod yX4_fallIfWorn, Cond.selects RX4 yX4_fallIfWorn yX4_fallIfWorn, Cond.code yX4_fallIfWorn cX4_fallIfWorn 2 none, Cond.methodLink RX4 99 yX4_outcome, Cond.instanceMethod yX4_outcome, Cond.selects RX4 yX4_outcome yX4_outcome, Cond.code yX4_outcome cX4_outcome 4 (some .int)]
def wsX5_bout : List Cond := .code yX5_bout cX5_bout 5 (some .int) :: ((wsX5_bout_r1 ++ (wsX5_bout_r2 ++ (wsX5_bout_r3 ++ (wsX5_bout_r4 ++ wsX5_bout_r5)))) ++ wsX50 ++ wsX40 ++ wsX10 ++ wsX00)
def wsX5_round_r1 : List Cond := [Cond.constant RX5 124 (65535), Cond.fieldLink RX5 25 "ConkerHeirs" "history" "LConkerHeirs$History;", Cond.fieldLink RX5 10 "ConkerHeirs" "now" "LConkerHeirs$State;", Cond.fieldLink RX5 39 "ConkerHeirs" "draws" "LConkerHeirs$Draws;", Cond.fieldLink RX5 46 "ConkerHeirs" "row" "LConkerHeirs$Row;", Cond.fieldLink RX5 128 "ConkerHeirs$Row" "length" "I", Cond.methodLink RX5 58 yX5_isWithin, Cond.static yX5_isWithin, Cond.initialized RX5, Cond.code yX5_isWithin cX5_isWithin 3 (some .boolean), Cond.methodLink RX5 70 yX1_keep, Cond.instanceMethod yX1_keep, Cond.selects RX1 yX1_keep yX1_keep, Cond.initialized RX1, Cond.code yX1_keep cX1_keep 2 none, Cond.fieldLink RX1 17 "ConkerHeirs$History" "held" "I", Cond.fieldLink RX1 11 "ConkerHeirs$History" "states" "[LConkerHeirs$State;", Cond.methodLink RX1 22 yX1_dropOldest, Cond.instanceMethod yX1_dropOldest, Cond.selects RX1 yX1_dropOldest yX1_dropOldest, Cond.code yX1_dropOldest cX1_dropOldest 3 none, Cond.methodLink RX1 25 yX4_copyFrom, Cond.instanceMethod yX4_copyFrom, Cond.selects RX4 yX4_copyFrom yX4_copyFrom]
def wsX5_round_r2 : List Cond := [Cond.initialized RX4, Cond.code yX4_copyFrom cX4_copyFrom 2 none, Cond.fieldLink RX4 9 "ConkerHeirs$State" "strings" "[I", Cond.methodLink RX4 52 arraycopyName, Cond.native arraycopyName, Cond.static arraycopyName, Cond.initialized "java/lang/System", Cond.fieldLink RX4 15 "ConkerHeirs$State" "shame" "[I", Cond.fieldLink RX4 18 "ConkerHeirs$State" "owner" "[I", Cond.fieldLink RX4 21 "ConkerHeirs$State" "hardness" "[I", Cond.fieldLink RX4 24 "ConkerHeirs$State" "crack" "[I", Cond.fieldLink RX4 27 "ConkerHeirs$State" "wear" "[I", Cond.fieldLink RX4 30 "ConkerHeirs$State" "victories" "[I", Cond.fieldLink RX4 33 "ConkerHeirs$State" "boasts" "[I", Cond.fieldLink RX4 36 "ConkerHeirs$State" "how" "[I", Cond.fieldLink RX4 39 "ConkerHeirs$State" "smashedBy" "[I", Cond.fieldLink RX4 42 "ConkerHeirs$State" "conkers" "I", Cond.fieldLink RX4 46 "ConkerHeirs$State" "lostVictories" "I", Cond.fieldLink RX4 49 "ConkerHeirs$State" "strikes" "I", Cond.methodLink RX5 116 yX0_begin, Cond.instanceMethod yX0_begin, Cond.selects RX0 yX0_begin yX0_begin, Cond.initialized RX0, Cond.code yX0_begin cX0_begin 2 none]
def wsX5_round_r3 : List Cond := [Cond.fieldLink RX0 7 "ConkerHeirs$Draws" "x" "I", Cond.methodLink RX5 125 yX2_lineUp, Cond.instanceMethod yX2_lineUp, Cond.selects RX2 yX2_lineUp yX2_lineUp, Cond.initialized RX2, Cond.code yX2_lineUp cX2_lineUp 4 none, Cond.fieldLink RX2 15 "ConkerHeirs$Row" "length" "I", Cond.methodLink RX2 19 yX4_conkerToSend, Cond.instanceMethod yX4_conkerToSend, Cond.selects RX4 yX4_conkerToSend yX4_conkerToSend, Cond.code yX4_conkerToSend cX4_conkerToSend 4 (some .int), Cond.methodLink RX2 25 yX2_insert, Cond.instanceMethod yX2_insert, Cond.selects RX2 yX2_insert yX2_insert, Cond.code yX2_insert cX2_insert 5 none, Cond.fieldLink RX2 29 "ConkerHeirs$State" "shame" "[I", Cond.fieldLink RX2 32 "ConkerHeirs$State" "owner" "[I", Cond.fieldLink RX2 9 "ConkerHeirs$Row" "conkers" "[I", Cond.methodLink RX5 131 yX0_next, Cond.instanceMethod yX0_next, Cond.selects RX0 yX0_next yX0_next, Cond.code yX0_next cX0_next 1 (some .int), Cond.constant RX0 13 (65536), Cond.methodLink RX5 135 yX2_takeOut]
def wsX5_round_r4 : List Cond := [Cond.instanceMethod yX2_takeOut, Cond.selects RX2 yX2_takeOut yX2_takeOut, Cond.code yX2_takeOut cX2_takeOut 4 (some .int), Cond.methodLink RX5 120 yX4_fight, Cond.instanceMethod yX4_fight, Cond.selects RX4 yX4_fight yX4_fight, Cond.code yX4_fight cX4_fight 8 (some .int), Cond.methodLink RX4 86 Lib.Math.min.name, Cond.static Lib.Math.min.name, Cond.initialized "java/lang/Math", Cond.code Lib.Math.min.name Lib.Math.min.code 2 (some .int), Cond.methodLink RX4 103 Lib.Math.max.name, Cond.static Lib.Math.max.name, Cond.code Lib.Math.max.name Lib.Math.max.code 2 (some .int), Cond.methodLink RX4 71 yX4_areInPlay, Cond.instanceMethod yX4_areInPlay, Cond.selects RX4 yX4_areInPlay yX4_areInPlay, Cond.code yX4_areInPlay cX4_areInPlay 3 (some .boolean), Cond.methodLink RX4 106 yX0_swing, Cond.instanceMethod yX0_swing, Cond.selects RX0 yX0_swing yX0_swing, Cond.code yX0_swing cX0_swing 1 (some .int), Cond.methodLink RX0 14 yX0_next, Cond.methodLink RX4 112 yX4_hit]
def wsX5_round_r5 : List Cond := [Cond.instanceMethod yX4_hit, Cond.selects RX4 yX4_hit yX4_hit, Cond.code yX4_hit cX4_hit 6 (some .int), Cond.methodLink RX4 82 yX4_quotient, Cond.static yX4_quotient, Cond.code yX4_quotient cX4_quotient 2 (some .int), Cond.methodLink RX4 91 yX4_settleSmashes, Cond.instanceMethod yX4_settleSmashes, Cond.selects RX4 yX4_settleSmashes yX4_settleSmashes, Cond.code yX4_settleSmashes cX4_settleSmashes 5 none, Cond.methodLink RX4 115 yX4_crush, Cond.instanceMethod yX4_crush, Cond.selects RX4 yX4_crush yX4_crush, Cond.code yX4_crush cX4_crush 3 (some .int), Cond.methodLink RX4 79 yX4_takeVictoriesOfSmashed, Cond.instanceMethod yX4_takeVictoriesOfSmashed, Cond.selects RX4 yX4_takeVictoriesOfSmashed yX4_takeVictoriesOfSmashed, Cond.code yX4_takeVictoriesOfSmashed cX4_takeVictoriesOfSmashed 3 (some .int), Cond.methodLink RX4 118 yX4_inherit, Cond.instanceMethod yX4_inherit, Cond.selects RX4 yX4_inherit yX4_inherit, Cond.code yX4_inherit cX4_inherit 3 none, Cond.methodLink RX4 95 yX4_fallIfWorn, Cond.instanceMethod yX4_fallIfWorn]
def wsX5_round_r6 : List Cond := [Cond.selects RX4 yX4_fallIfWorn yX4_fallIfWorn, Cond.code yX4_fallIfWorn cX4_fallIfWorn 2 none, Cond.methodLink RX4 99 yX4_outcome, Cond.instanceMethod yX4_outcome, Cond.selects RX4 yX4_outcome yX4_outcome, Cond.code yX4_outcome cX4_outcome 4 (some .int)]
def wsX5_round : List Cond := .code yX5_round cX5_round 5 (some .int) :: ((wsX5_round_r1 ++ (wsX5_round_r2 ++ (wsX5_round_r3 ++ (wsX5_round_r4 ++ (wsX5_round_r5 ++ wsX5_round_r6))))) ++ wsX50 ++ wsX20 ++ wsX10 ++ wsX40 ++ wsX00)
def wsX5_undo_r1 : List Cond := [Cond.fieldLink RX5 25 "ConkerHeirs" "history" "LConkerHeirs$History;", Cond.fieldLink RX5 10 "ConkerHeirs" "now" "LConkerHeirs$State;", Cond.methodLink RX5 160 yX1_bringBack, Cond.instanceMethod yX1_bringBack, Cond.selects RX1 yX1_bringBack yX1_bringBack, Cond.initialized RX1, Cond.code yX1_bringBack cX1_bringBack 2 (some .int), Cond.fieldLink RX1 17 "ConkerHeirs$History" "held" "I", Cond.fieldLink RX1 11 "ConkerHeirs$History" "states" "[LConkerHeirs$State;", Cond.methodLink RX1 25 yX4_copyFrom, Cond.instanceMethod yX4_copyFrom, Cond.selects RX4 yX4_copyFrom yX4_copyFrom, Cond.initialized RX4, Cond.code yX4_copyFrom cX4_copyFrom 2 none, Cond.fieldLink RX4 9 "ConkerHeirs$State" "strings" "[I", Cond.methodLink RX4 52 arraycopyName, Cond.native arraycopyName, Cond.static arraycopyName, Cond.initialized "java/lang/System", Cond.fieldLink RX4 15 "ConkerHeirs$State" "shame" "[I", Cond.fieldLink RX4 18 "ConkerHeirs$State" "owner" "[I", Cond.fieldLink RX4 21 "ConkerHeirs$State" "hardness" "[I", Cond.fieldLink RX4 24 "ConkerHeirs$State" "crack" "[I", Cond.fieldLink RX4 27 "ConkerHeirs$State" "wear" "[I"]
def wsX5_undo_r2 : List Cond := [Cond.fieldLink RX4 30 "ConkerHeirs$State" "victories" "[I", Cond.fieldLink RX4 33 "ConkerHeirs$State" "boasts" "[I", Cond.fieldLink RX4 36 "ConkerHeirs$State" "how" "[I", Cond.fieldLink RX4 39 "ConkerHeirs$State" "smashedBy" "[I", Cond.fieldLink RX4 42 "ConkerHeirs$State" "conkers" "I", Cond.fieldLink RX4 46 "ConkerHeirs$State" "lostVictories" "I", Cond.fieldLink RX4 49 "ConkerHeirs$State" "strikes" "I"]
def wsX5_undo : List Cond := .code yX5_undo cX5_undo 1 (some .int) :: ((wsX5_undo_r1 ++ wsX5_undo_r2) ++ wsX50 ++ wsX10 ++ wsX40)
def wsX5_conker : List Cond := .code yX5_conker cX5_conker 3 (some .int) :: ([.fieldLink RX5 10 "ConkerHeirs" "now" "LConkerHeirs$State;", .fieldLink RX5 107 "ConkerHeirs$State" "owner" "[I", .fieldLink RX5 170 "ConkerHeirs$State" "hardness" "[I", .fieldLink RX5 173 "ConkerHeirs$State" "crack" "[I", .fieldLink RX5 176 "ConkerHeirs$State" "wear" "[I", .fieldLink RX5 179 "ConkerHeirs$State" "victories" "[I", .fieldLink RX5 104 "ConkerHeirs$State" "boasts" "[I", .fieldLink RX5 101 "ConkerHeirs$State" "how" "[I", .fieldLink RX5 182 "ConkerHeirs$State" "smashedBy" "[I", .methodLink RX5 98 yX4_hasConker, .instanceMethod yX4_hasConker, .selects RX4 yX4_hasConker yX4_hasConker, .initialized RX4, .code yX4_hasConker cX4_hasConker 2 (some .boolean), .fieldLink RX4 42 "ConkerHeirs$State" "conkers" "I", .static yX5_isWithin, .initialized RX5, .code yX5_isWithin cX5_isWithin 3 (some .boolean), .methodLink RX5 185 yX4_conkersSmashedBy, .instanceMethod yX4_conkersSmashedBy, .selects RX4 yX4_conkersSmashedBy yX4_conkersSmashedBy, .code yX4_conkersSmashedBy cX4_conkersSmashedBy 4 (some .int), .fieldLink RX4 39 "ConkerHeirs$State" "smashedBy" "[I"] ++ wsX50 ++ wsX40)
def wsX5_player_r1 : List Cond := [Cond.fieldLink RX5 10 "ConkerHeirs" "now" "LConkerHeirs$State;", Cond.fieldLink RX5 62 "ConkerHeirs$State" "strings" "[I", Cond.fieldLink RX5 188 "ConkerHeirs$State" "shame" "[I", Cond.methodLink RX5 54 yX5_isPlayer, Cond.static yX5_isPlayer, Cond.initialized RX5, Cond.code yX5_isPlayer cX5_isPlayer 1 (some .boolean), Cond.methodLink RX5 58 yX5_isWithin, Cond.static yX5_isWithin, Cond.code yX5_isWithin cX5_isWithin 3 (some .boolean), Cond.methodLink RX5 167 yX4_conkersBeing, Cond.instanceMethod yX4_conkersBeing, Cond.selects RX4 yX4_conkersBeing yX4_conkersBeing, Cond.initialized RX4, Cond.code yX4_conkersBeing cX4_conkersBeing 5 (some .int), Cond.fieldLink RX4 42 "ConkerHeirs$State" "conkers" "I", Cond.fieldLink RX4 36 "ConkerHeirs$State" "how" "[I", Cond.methodLink RX4 121 yX4_isOf, Cond.instanceMethod yX4_isOf, Cond.selects RX4 yX4_isOf yX4_isOf, Cond.code yX4_isOf cX4_isOf 3 (some .boolean), Cond.fieldLink RX4 18 "ConkerHeirs$State" "owner" "[I", Cond.methodLink RX5 191 yX4_victoriesOf, Cond.instanceMethod yX4_victoriesOf]
def wsX5_player_r2 : List Cond := [Cond.selects RX4 yX4_victoriesOf yX4_victoriesOf, Cond.code yX4_victoriesOf cX4_victoriesOf 4 (some .int), Cond.fieldLink RX4 30 "ConkerHeirs$State" "victories" "[I", Cond.methodLink RX5 194 yX4_conkerToSend, Cond.instanceMethod yX4_conkerToSend, Cond.selects RX4 yX4_conkerToSend yX4_conkerToSend, Cond.code yX4_conkerToSend cX4_conkerToSend 4 (some .int)]
def wsX5_player : List Cond := .code yX5_player cX5_player 3 (some .int) :: ((wsX5_player_r1 ++ wsX5_player_r2) ++ wsX50 ++ wsX40)
def wsX5_ranked : List Cond := .code yX5_ranked cX5_ranked 2 (some .int) :: ([.fieldLink RX5 10 "ConkerHeirs" "now" "LConkerHeirs$State;", .methodLink RX5 197 yX4_conkerAtRank, .instanceMethod yX4_conkerAtRank, .selects RX4 yX4_conkerAtRank yX4_conkerAtRank, .initialized RX4, .code yX4_conkerAtRank cX4_conkerAtRank 3 (some .int), .fieldLink RX4 42 "ConkerHeirs$State" "conkers" "I", .fieldLink RX4 36 "ConkerHeirs$State" "how" "[I", .methodLink RX4 124 yX4_conkersAheadOf, .instanceMethod yX4_conkersAheadOf, .selects RX4 yX4_conkersAheadOf yX4_conkersAheadOf, .code yX4_conkersAheadOf cX4_conkersAheadOf 6 (some .int), .fieldLink RX4 30 "ConkerHeirs$State" "victories" "[I"] ++ wsX50 ++ wsX40)
def wsX5_line : List Cond := .code yX5_line cX5_line 2 (some .int) :: ([.fieldLink RX5 10 "ConkerHeirs" "now" "LConkerHeirs$State;", .methodLink RX5 98 yX4_hasConker, .instanceMethod yX4_hasConker, .selects RX4 yX4_hasConker yX4_hasConker, .initialized RX4, .code yX4_hasConker cX4_hasConker 2 (some .boolean), .fieldLink RX4 42 "ConkerHeirs$State" "conkers" "I", .static yX5_isWithin, .initialized RX5, .code yX5_isWithin cX5_isWithin 3 (some .boolean), .methodLink RX5 200 yX4_lengthOfLine, .instanceMethod yX4_lengthOfLine, .selects RX4 yX4_lengthOfLine yX4_lengthOfLine, .code yX4_lengthOfLine cX4_lengthOfLine 4 (some .int), .methodLink RX4 130 yX4_isInLineOf, .instanceMethod yX4_isInLineOf, .selects RX4 yX4_isInLineOf yX4_isInLineOf, .code yX4_isInLineOf cX4_isInLineOf 5 (some .boolean), .fieldLink RX4 39 "ConkerHeirs$State" "smashedBy" "[I", .methodLink RX4 67 yX4_hasConker] ++ wsX50 ++ wsX40)
def wsX5_count_r1 : List Cond := [Cond.fieldLink RX5 10 "ConkerHeirs" "now" "LConkerHeirs$State;", Cond.fieldLink RX5 66 "ConkerHeirs$State" "conkers" "I", Cond.fieldLink RX5 203 "ConkerHeirs$State" "lostVictories" "I", Cond.fieldLink RX5 206 "ConkerHeirs$State" "strikes" "I", Cond.fieldLink RX5 25 "ConkerHeirs" "history" "LConkerHeirs$History;", Cond.fieldLink RX5 218 "ConkerHeirs$History" "held" "I", Cond.fieldLink RX5 32 "ConkerHeirs" "script" "LConkerHeirs$Script;", Cond.fieldLink RX5 138 "ConkerHeirs$Script" "length" "I", Cond.methodLink RX5 167 yX4_conkersBeing, Cond.instanceMethod yX4_conkersBeing, Cond.selects RX4 yX4_conkersBeing yX4_conkersBeing, Cond.initialized RX4, Cond.code yX4_conkersBeing cX4_conkersBeing 5 (some .int), Cond.fieldLink RX4 42 "ConkerHeirs$State" "conkers" "I", Cond.fieldLink RX4 36 "ConkerHeirs$State" "how" "[I", Cond.methodLink RX4 121 yX4_isOf, Cond.instanceMethod yX4_isOf, Cond.selects RX4 yX4_isOf yX4_isOf, Cond.code yX4_isOf cX4_isOf 3 (some .boolean), Cond.fieldLink RX4 18 "ConkerHeirs$State" "owner" "[I", Cond.methodLink RX5 191 yX4_victoriesOf, Cond.instanceMethod yX4_victoriesOf, Cond.selects RX4 yX4_victoriesOf yX4_victoriesOf, Cond.code yX4_victoriesOf cX4_victoriesOf 4 (some .int)]
def wsX5_count_r2 : List Cond := [Cond.fieldLink RX4 30 "ConkerHeirs$State" "victories" "[I", Cond.methodLink RX5 209 yX4_conkersWithHeir, Cond.instanceMethod yX4_conkersWithHeir, Cond.selects RX4 yX4_conkersWithHeir yX4_conkersWithHeir, Cond.code yX4_conkersWithHeir cX4_conkersWithHeir 1 (some .int), Cond.methodLink RX4 127 yX4_conkersSmashedBy, Cond.instanceMethod yX4_conkersSmashedBy, Cond.selects RX4 yX4_conkersSmashedBy yX4_conkersSmashedBy, Cond.code yX4_conkersSmashedBy cX4_conkersSmashedBy 4 (some .int), Cond.fieldLink RX4 39 "ConkerHeirs$State" "smashedBy" "[I", Cond.methodLink RX5 212 yX4_boastsTold, Cond.instanceMethod yX4_boastsTold, Cond.selects RX4 yX4_boastsTold yX4_boastsTold, Cond.code yX4_boastsTold cX4_boastsTold 3 (some .int), Cond.fieldLink RX4 33 "ConkerHeirs$State" "boasts" "[I", Cond.methodLink RX5 215 yX4_boastsTooHigh, Cond.instanceMethod yX4_boastsTooHigh, Cond.selects RX4 yX4_boastsTooHigh yX4_boastsTooHigh, Cond.code yX4_boastsTooHigh cX4_boastsTooHigh 3 (some .int)]
def wsX5_count : List Cond := .code yX5_count cX5_count 2 (some .int) :: ((wsX5_count_r1 ++ wsX5_count_r2) ++ wsX50 ++ wsX40 ++ wsX10 ++ wsX30)
def wsX5_tryHit_r1 : List Cond := [Cond.fieldLink RX5 19 "ConkerHeirs" "trial" "LConkerHeirs$State;", Cond.fieldLink RX5 10 "ConkerHeirs" "now" "LConkerHeirs$State;", Cond.methodLink RX5 164 yX4_copyFrom, Cond.instanceMethod yX4_copyFrom, Cond.selects RX4 yX4_copyFrom yX4_copyFrom, Cond.initialized RX4, Cond.code yX4_copyFrom cX4_copyFrom 2 none, Cond.fieldLink RX4 9 "ConkerHeirs$State" "strings" "[I", Cond.methodLink RX4 52 arraycopyName, Cond.native arraycopyName, Cond.static arraycopyName, Cond.initialized "java/lang/System", Cond.fieldLink RX4 15 "ConkerHeirs$State" "shame" "[I", Cond.fieldLink RX4 18 "ConkerHeirs$State" "owner" "[I", Cond.fieldLink RX4 21 "ConkerHeirs$State" "hardness" "[I", Cond.fieldLink RX4 24 "ConkerHeirs$State" "crack" "[I", Cond.fieldLink RX4 27 "ConkerHeirs$State" "wear" "[I", Cond.fieldLink RX4 30 "ConkerHeirs$State" "victories" "[I", Cond.fieldLink RX4 33 "ConkerHeirs$State" "boasts" "[I", Cond.fieldLink RX4 36 "ConkerHeirs$State" "how" "[I", Cond.fieldLink RX4 39 "ConkerHeirs$State" "smashedBy" "[I", Cond.fieldLink RX4 42 "ConkerHeirs$State" "conkers" "I", Cond.fieldLink RX4 46 "ConkerHeirs$State" "lostVictories" "I", Cond.fieldLink RX4 49 "ConkerHeirs$State" "strikes" "I"]
def wsX5_tryHit_r2 : List Cond := [Cond.methodLink RX5 82 yX4_hit, Cond.instanceMethod yX4_hit, Cond.selects RX4 yX4_hit yX4_hit, Cond.code yX4_hit cX4_hit 6 (some .int), Cond.methodLink RX4 86 Lib.Math.min.name, Cond.static Lib.Math.min.name, Cond.initialized "java/lang/Math", Cond.code Lib.Math.min.name Lib.Math.min.code 2 (some .int), Cond.methodLink RX4 82 yX4_quotient, Cond.static yX4_quotient, Cond.code yX4_quotient cX4_quotient 2 (some .int), Cond.methodLink RX4 91 yX4_settleSmashes, Cond.instanceMethod yX4_settleSmashes, Cond.selects RX4 yX4_settleSmashes yX4_settleSmashes, Cond.code yX4_settleSmashes cX4_settleSmashes 5 none, Cond.methodLink RX4 115 yX4_crush, Cond.instanceMethod yX4_crush, Cond.selects RX4 yX4_crush yX4_crush, Cond.code yX4_crush cX4_crush 3 (some .int), Cond.methodLink RX4 79 yX4_takeVictoriesOfSmashed, Cond.instanceMethod yX4_takeVictoriesOfSmashed, Cond.selects RX4 yX4_takeVictoriesOfSmashed yX4_takeVictoriesOfSmashed, Cond.code yX4_takeVictoriesOfSmashed cX4_takeVictoriesOfSmashed 3 (some .int), Cond.methodLink RX4 118 yX4_inherit]
def wsX5_tryHit_r3 : List Cond := [Cond.instanceMethod yX4_inherit, Cond.selects RX4 yX4_inherit yX4_inherit, Cond.code yX4_inherit cX4_inherit 3 none, Cond.methodLink RX4 95 yX4_fallIfWorn, Cond.instanceMethod yX4_fallIfWorn, Cond.selects RX4 yX4_fallIfWorn yX4_fallIfWorn, Cond.code yX4_fallIfWorn cX4_fallIfWorn 2 none, Cond.methodLink RX4 99 yX4_outcome, Cond.instanceMethod yX4_outcome, Cond.selects RX4 yX4_outcome yX4_outcome, Cond.code yX4_outcome cX4_outcome 4 (some .int)]
def wsX5_tryHit : List Cond := .code yX5_tryHit cX5_tryHit 4 (some .int) :: ((wsX5_tryHit_r1 ++ (wsX5_tryHit_r2 ++ wsX5_tryHit_r3)) ++ wsX50 ++ wsX40)
def wsX5_ifStruck_r1 : List Cond := [Cond.fieldLink RX5 10 "ConkerHeirs" "now" "LConkerHeirs$State;", Cond.methodLink RX5 78 yX4_strikeError, Cond.instanceMethod yX4_strikeError, Cond.selects RX4 yX4_strikeError yX4_strikeError, Cond.initialized RX4, Cond.code yX4_strikeError cX4_strikeError 4 (some .int), Cond.static yX5_isWithin, Cond.initialized RX5, Cond.code yX5_isWithin cX5_isWithin 3 (some .boolean), Cond.methodLink RX4 62 yX4_pairError, Cond.instanceMethod yX4_pairError, Cond.selects RX4 yX4_pairError yX4_pairError, Cond.code yX4_pairError cX4_pairError 4 (some .int), Cond.fieldLink RX4 18 "ConkerHeirs$State" "owner" "[I", Cond.methodLink RX4 67 yX4_hasConker, Cond.instanceMethod yX4_hasConker, Cond.selects RX4 yX4_hasConker yX4_hasConker, Cond.code yX4_hasConker cX4_hasConker 2 (some .boolean), Cond.fieldLink RX4 42 "ConkerHeirs$State" "conkers" "I", Cond.methodLink RX4 71 yX4_areInPlay, Cond.instanceMethod yX4_areInPlay, Cond.selects RX4 yX4_areInPlay yX4_areInPlay, Cond.code yX4_areInPlay cX4_areInPlay 3 (some .boolean), Cond.fieldLink RX4 36 "ConkerHeirs$State" "how" "[I"]
def wsX5_ifStruck_r2 : List Cond := [Cond.methodLink RX5 221 yX5_tryHit, Cond.instanceMethod yX5_tryHit, Cond.selects RX5 yX5_tryHit yX5_tryHit, Cond.code yX5_tryHit cX5_tryHit 4 (some .int), Cond.fieldLink RX5 19 "ConkerHeirs" "trial" "LConkerHeirs$State;", Cond.methodLink RX5 164 yX4_copyFrom, Cond.instanceMethod yX4_copyFrom, Cond.selects RX4 yX4_copyFrom yX4_copyFrom, Cond.code yX4_copyFrom cX4_copyFrom 2 none, Cond.fieldLink RX4 9 "ConkerHeirs$State" "strings" "[I", Cond.methodLink RX4 52 arraycopyName, Cond.native arraycopyName, Cond.static arraycopyName, Cond.initialized "java/lang/System", Cond.fieldLink RX4 15 "ConkerHeirs$State" "shame" "[I", Cond.fieldLink RX4 21 "ConkerHeirs$State" "hardness" "[I", Cond.fieldLink RX4 24 "ConkerHeirs$State" "crack" "[I", Cond.fieldLink RX4 27 "ConkerHeirs$State" "wear" "[I", Cond.fieldLink RX4 30 "ConkerHeirs$State" "victories" "[I", Cond.fieldLink RX4 33 "ConkerHeirs$State" "boasts" "[I", Cond.fieldLink RX4 39 "ConkerHeirs$State" "smashedBy" "[I", Cond.fieldLink RX4 46 "ConkerHeirs$State" "lostVictories" "I", Cond.fieldLink RX4 49 "ConkerHeirs$State" "strikes" "I", Cond.methodLink RX5 82 yX4_hit]
def wsX5_ifStruck_r3 : List Cond := [Cond.instanceMethod yX4_hit, Cond.selects RX4 yX4_hit yX4_hit, Cond.code yX4_hit cX4_hit 6 (some .int), Cond.methodLink RX4 86 Lib.Math.min.name, Cond.static Lib.Math.min.name, Cond.initialized "java/lang/Math", Cond.code Lib.Math.min.name Lib.Math.min.code 2 (some .int), Cond.methodLink RX4 82 yX4_quotient, Cond.static yX4_quotient, Cond.code yX4_quotient cX4_quotient 2 (some .int), Cond.methodLink RX4 91 yX4_settleSmashes, Cond.instanceMethod yX4_settleSmashes, Cond.selects RX4 yX4_settleSmashes yX4_settleSmashes, Cond.code yX4_settleSmashes cX4_settleSmashes 5 none, Cond.methodLink RX4 115 yX4_crush, Cond.instanceMethod yX4_crush, Cond.selects RX4 yX4_crush yX4_crush, Cond.code yX4_crush cX4_crush 3 (some .int), Cond.methodLink RX4 79 yX4_takeVictoriesOfSmashed, Cond.instanceMethod yX4_takeVictoriesOfSmashed, Cond.selects RX4 yX4_takeVictoriesOfSmashed yX4_takeVictoriesOfSmashed, Cond.code yX4_takeVictoriesOfSmashed cX4_takeVictoriesOfSmashed 3 (some .int), Cond.methodLink RX4 118 yX4_inherit, Cond.instanceMethod yX4_inherit]
def wsX5_ifStruck_r4 : List Cond := [Cond.selects RX4 yX4_inherit yX4_inherit, Cond.code yX4_inherit cX4_inherit 3 none, Cond.methodLink RX4 95 yX4_fallIfWorn, Cond.instanceMethod yX4_fallIfWorn, Cond.selects RX4 yX4_fallIfWorn yX4_fallIfWorn, Cond.code yX4_fallIfWorn cX4_fallIfWorn 2 none, Cond.methodLink RX4 99 yX4_outcome, Cond.instanceMethod yX4_outcome, Cond.selects RX4 yX4_outcome yX4_outcome, Cond.code yX4_outcome cX4_outcome 4 (some .int)]
def wsX5_ifStruck : List Cond := .code yX5_ifStruck cX5_ifStruck 5 (some .int) :: ((wsX5_ifStruck_r1 ++ (wsX5_ifStruck_r2 ++ (wsX5_ifStruck_r3 ++ wsX5_ifStruck_r4))) ++ wsX50 ++ wsX40)
def wsX5_leastSwing_r1 : List Cond := [Cond.fieldLink RX5 10 "ConkerHeirs" "now" "LConkerHeirs$State;", Cond.methodLink RX5 78 yX4_strikeError, Cond.instanceMethod yX4_strikeError, Cond.selects RX4 yX4_strikeError yX4_strikeError, Cond.initialized RX4, Cond.code yX4_strikeError cX4_strikeError 4 (some .int), Cond.static yX5_isWithin, Cond.initialized RX5, Cond.code yX5_isWithin cX5_isWithin 3 (some .boolean), Cond.methodLink RX4 62 yX4_pairError, Cond.instanceMethod yX4_pairError, Cond.selects RX4 yX4_pairError yX4_pairError, Cond.code yX4_pairError cX4_pairError 4 (some .int), Cond.fieldLink RX4 18 "ConkerHeirs$State" "owner" "[I", Cond.methodLink RX4 67 yX4_hasConker, Cond.instanceMethod yX4_hasConker, Cond.selects RX4 yX4_hasConker yX4_hasConker, Cond.code yX4_hasConker cX4_hasConker 2 (some .boolean), Cond.fieldLink RX4 42 "ConkerHeirs$State" "conkers" "I", Cond.methodLink RX4 71 yX4_areInPlay, Cond.instanceMethod yX4_areInPlay, Cond.selects RX4 yX4_areInPlay yX4_areInPlay, Cond.code yX4_areInPlay cX4_areInPlay 3 (some .boolean), Cond.fieldLink RX4 36 "ConkerHeirs$State" "how" "[I"]
def wsX5_leastSwing_r2 : List Cond := [Cond.methodLink RX5 221 yX5_tryHit, Cond.instanceMethod yX5_tryHit, Cond.selects RX5 yX5_tryHit yX5_tryHit, Cond.code yX5_tryHit cX5_tryHit 4 (some .int), Cond.fieldLink RX5 19 "ConkerHeirs" "trial" "LConkerHeirs$State;", Cond.methodLink RX5 164 yX4_copyFrom, Cond.instanceMethod yX4_copyFrom, Cond.selects RX4 yX4_copyFrom yX4_copyFrom, Cond.code yX4_copyFrom cX4_copyFrom 2 none, Cond.fieldLink RX4 9 "ConkerHeirs$State" "strings" "[I", Cond.methodLink RX4 52 arraycopyName, Cond.native arraycopyName, Cond.static arraycopyName, Cond.initialized "java/lang/System", Cond.fieldLink RX4 15 "ConkerHeirs$State" "shame" "[I", Cond.fieldLink RX4 21 "ConkerHeirs$State" "hardness" "[I", Cond.fieldLink RX4 24 "ConkerHeirs$State" "crack" "[I", Cond.fieldLink RX4 27 "ConkerHeirs$State" "wear" "[I", Cond.fieldLink RX4 30 "ConkerHeirs$State" "victories" "[I", Cond.fieldLink RX4 33 "ConkerHeirs$State" "boasts" "[I", Cond.fieldLink RX4 39 "ConkerHeirs$State" "smashedBy" "[I", Cond.fieldLink RX4 46 "ConkerHeirs$State" "lostVictories" "I", Cond.fieldLink RX4 49 "ConkerHeirs$State" "strikes" "I", Cond.methodLink RX5 82 yX4_hit]
def wsX5_leastSwing_r3 : List Cond := [Cond.instanceMethod yX4_hit, Cond.selects RX4 yX4_hit yX4_hit, Cond.code yX4_hit cX4_hit 6 (some .int), Cond.methodLink RX4 86 Lib.Math.min.name, Cond.static Lib.Math.min.name, Cond.initialized "java/lang/Math", Cond.code Lib.Math.min.name Lib.Math.min.code 2 (some .int), Cond.methodLink RX4 82 yX4_quotient, Cond.static yX4_quotient, Cond.code yX4_quotient cX4_quotient 2 (some .int), Cond.methodLink RX4 91 yX4_settleSmashes, Cond.instanceMethod yX4_settleSmashes, Cond.selects RX4 yX4_settleSmashes yX4_settleSmashes, Cond.code yX4_settleSmashes cX4_settleSmashes 5 none, Cond.methodLink RX4 115 yX4_crush, Cond.instanceMethod yX4_crush, Cond.selects RX4 yX4_crush yX4_crush, Cond.code yX4_crush cX4_crush 3 (some .int), Cond.methodLink RX4 79 yX4_takeVictoriesOfSmashed, Cond.instanceMethod yX4_takeVictoriesOfSmashed, Cond.selects RX4 yX4_takeVictoriesOfSmashed yX4_takeVictoriesOfSmashed, Cond.code yX4_takeVictoriesOfSmashed cX4_takeVictoriesOfSmashed 3 (some .int), Cond.methodLink RX4 118 yX4_inherit, Cond.instanceMethod yX4_inherit]
def wsX5_leastSwing_r4 : List Cond := [Cond.selects RX4 yX4_inherit yX4_inherit, Cond.code yX4_inherit cX4_inherit 3 none, Cond.methodLink RX4 95 yX4_fallIfWorn, Cond.instanceMethod yX4_fallIfWorn, Cond.selects RX4 yX4_fallIfWorn yX4_fallIfWorn, Cond.code yX4_fallIfWorn cX4_fallIfWorn 2 none, Cond.methodLink RX4 99 yX4_outcome, Cond.instanceMethod yX4_outcome, Cond.selects RX4 yX4_outcome yX4_outcome, Cond.code yX4_outcome cX4_outcome 4 (some .int)]
def wsX5_leastSwing : List Cond := .code yX5_leastSwing cX5_leastSwing 6 (some .int) :: ((wsX5_leastSwing_r1 ++ (wsX5_leastSwing_r2 ++ (wsX5_leastSwing_r3 ++ wsX5_leastSwing_r4))) ++ wsX50 ++ wsX40)
def wsX5_winner_r1 : List Cond := [Cond.fieldLink RX5 10 "ConkerHeirs" "now" "LConkerHeirs$State;", Cond.fieldLink RX5 19 "ConkerHeirs" "trial" "LConkerHeirs$State;", Cond.fieldLink RX5 39 "ConkerHeirs" "draws" "LConkerHeirs$Draws;", Cond.fieldLink RX5 101 "ConkerHeirs$State" "how" "[I", Cond.methodLink RX5 113 yX4_boutError, Cond.instanceMethod yX4_boutError, Cond.selects RX4 yX4_boutError yX4_boutError, Cond.initialized RX4, Cond.code yX4_boutError cX4_boutError 4 (some .int), Cond.constant RX4 66 (65535), Cond.static yX5_isWithin, Cond.initialized RX5, Cond.code yX5_isWithin cX5_isWithin 3 (some .boolean), Cond.methodLink RX4 62 yX4_pairError, Cond.instanceMethod yX4_pairError, Cond.selects RX4 yX4_pairError yX4_pairError, Cond.code yX4_pairError cX4_pairError 4 (some .int), Cond.fieldLink RX4 18 "ConkerHeirs$State" "owner" "[I", Cond.methodLink RX4 67 yX4_hasConker, Cond.instanceMethod yX4_hasConker, Cond.selects RX4 yX4_hasConker yX4_hasConker, Cond.code yX4_hasConker cX4_hasConker 2 (some .boolean), Cond.fieldLink RX4 42 "ConkerHeirs$State" "conkers" "I", Cond.methodLink RX4 71 yX4_areInPlay]
def wsX5_winner_r2 : List Cond := [Cond.instanceMethod yX4_areInPlay, Cond.selects RX4 yX4_areInPlay yX4_areInPlay, Cond.code yX4_areInPlay cX4_areInPlay 3 (some .boolean), Cond.fieldLink RX4 36 "ConkerHeirs$State" "how" "[I", Cond.methodLink RX5 164 yX4_copyFrom, Cond.instanceMethod yX4_copyFrom, Cond.selects RX4 yX4_copyFrom yX4_copyFrom, Cond.code yX4_copyFrom cX4_copyFrom 2 none, Cond.fieldLink RX4 9 "ConkerHeirs$State" "strings" "[I", Cond.methodLink RX4 52 arraycopyName, Cond.native arraycopyName, Cond.static arraycopyName, Cond.initialized "java/lang/System", Cond.fieldLink RX4 15 "ConkerHeirs$State" "shame" "[I", Cond.fieldLink RX4 21 "ConkerHeirs$State" "hardness" "[I", Cond.fieldLink RX4 24 "ConkerHeirs$State" "crack" "[I", Cond.fieldLink RX4 27 "ConkerHeirs$State" "wear" "[I", Cond.fieldLink RX4 30 "ConkerHeirs$State" "victories" "[I", Cond.fieldLink RX4 33 "ConkerHeirs$State" "boasts" "[I", Cond.fieldLink RX4 39 "ConkerHeirs$State" "smashedBy" "[I", Cond.fieldLink RX4 46 "ConkerHeirs$State" "lostVictories" "I", Cond.fieldLink RX4 49 "ConkerHeirs$State" "strikes" "I", Cond.methodLink RX5 116 yX0_begin, Cond.instanceMethod yX0_begin]
def wsX5_winner_r3 : List Cond := [Cond.selects RX0 yX0_begin yX0_begin, Cond.initialized RX0, Cond.code yX0_begin cX0_begin 2 none, Cond.fieldLink RX0 7 "ConkerHeirs$Draws" "x" "I", Cond.methodLink RX5 120 yX4_fight, Cond.instanceMethod yX4_fight, Cond.selects RX4 yX4_fight yX4_fight, Cond.code yX4_fight cX4_fight 8 (some .int), Cond.methodLink RX4 86 Lib.Math.min.name, Cond.static Lib.Math.min.name, Cond.initialized "java/lang/Math", Cond.code Lib.Math.min.name Lib.Math.min.code 2 (some .int), Cond.methodLink RX4 103 Lib.Math.max.name, Cond.static Lib.Math.max.name, Cond.code Lib.Math.max.name Lib.Math.max.code 2 (some .int), Cond.methodLink RX4 106 yX0_swing, Cond.instanceMethod yX0_swing, Cond.selects RX0 yX0_swing yX0_swing, Cond.code yX0_swing cX0_swing 1 (some .int), Cond.methodLink RX0 14 yX0_next, Cond.instanceMethod yX0_next, Cond.selects RX0 yX0_next yX0_next, Cond.code yX0_next cX0_next 1 (some .int), Cond.constant RX0 13 (65536)]
def wsX5_winner_r4 : List Cond := [Cond.methodLink RX4 112 yX4_hit, Cond.instanceMethod yX4_hit, Cond.selects RX4 yX4_hit yX4_hit, Cond.code yX4_hit cX4_hit 6 (some .int), Cond.methodLink RX4 82 yX4_quotient, Cond.static yX4_quotient, Cond.code yX4_quotient cX4_quotient 2 (some .int), Cond.methodLink RX4 91 yX4_settleSmashes, Cond.instanceMethod yX4_settleSmashes, Cond.selects RX4 yX4_settleSmashes yX4_settleSmashes, Cond.code yX4_settleSmashes cX4_settleSmashes 5 none, Cond.methodLink RX4 115 yX4_crush, Cond.instanceMethod yX4_crush, Cond.selects RX4 yX4_crush yX4_crush, Cond.code yX4_crush cX4_crush 3 (some .int), Cond.methodLink RX4 79 yX4_takeVictoriesOfSmashed, Cond.instanceMethod yX4_takeVictoriesOfSmashed, Cond.selects RX4 yX4_takeVictoriesOfSmashed yX4_takeVictoriesOfSmashed, Cond.code yX4_takeVictoriesOfSmashed cX4_takeVictoriesOfSmashed 3 (some .int), Cond.methodLink RX4 118 yX4_inherit, Cond.instanceMethod yX4_inherit, Cond.selects RX4 yX4_inherit yX4_inherit, Cond.code yX4_inherit cX4_inherit 3 none, Cond.methodLink RX4 95 yX4_fallIfWorn]
def wsX5_winner_r5 : List Cond := [Cond.instanceMethod yX4_fallIfWorn, Cond.selects RX4 yX4_fallIfWorn yX4_fallIfWorn, Cond.code yX4_fallIfWorn cX4_fallIfWorn 2 none, Cond.methodLink RX4 99 yX4_outcome, Cond.instanceMethod yX4_outcome, Cond.selects RX4 yX4_outcome yX4_outcome, Cond.code yX4_outcome cX4_outcome 4 (some .int)]
def wsX5_winner : List Cond := .code yX5_winner cX5_winner 7 (some .int) :: ((wsX5_winner_r1 ++ (wsX5_winner_r2 ++ (wsX5_winner_r3 ++ (wsX5_winner_r4 ++ wsX5_winner_r5)))) ++ wsX50 ++ wsX40 ++ wsX00)
def wsX5_share : List Cond := .code yX5_share cX5_share 3 (some .float) :: ([.fieldLink RX5 10 "ConkerHeirs" "now" "LConkerHeirs$State;", .methodLink RX5 191 yX4_victoriesOf, .instanceMethod yX4_victoriesOf, .selects RX4 yX4_victoriesOf yX4_victoriesOf, .initialized RX4, .code yX4_victoriesOf cX4_victoriesOf 4 (some .int), .fieldLink RX4 42 "ConkerHeirs$State" "conkers" "I", .fieldLink RX4 30 "ConkerHeirs$State" "victories" "[I", .methodLink RX4 121 yX4_isOf, .instanceMethod yX4_isOf, .selects RX4 yX4_isOf yX4_isOf, .code yX4_isOf cX4_isOf 3 (some .boolean), .fieldLink RX4 18 "ConkerHeirs$State" "owner" "[I", .methodLink RX5 54 yX5_isPlayer, .static yX5_isPlayer, .initialized RX5, .code yX5_isPlayer cX5_isPlayer 1 (some .boolean), .methodLink RX5 58 yX5_isWithin, .static yX5_isWithin, .code yX5_isWithin cX5_isWithin 3 (some .boolean)] ++ wsX50 ++ wsX40)
def wsJ9_max_7cf53 : List Cond := .code yJ9_max_7cf53 cJ9_max_7cf53 2 (some .int) :: ([])
def wsJ9_min_7cf53 : List Cond := .code yJ9_min_7cf53 cJ9_min_7cf53 2 (some .int) :: ([])
def wsL_cell : List Cond := .code yL_cell cL_cell 2 (some .int) :: ([.constant RL 7 (1063091093), .constant RL 8 (473848443)])
def wsL_low : List Cond := .code yL_low cL_low 2 (some .int) :: ([.constant RL 9 (2147483647)])
def wsL_act_r1 : List Cond := [Cond.constant RL 37 (65536), Cond.methodLink RL 10 yL_low, Cond.static yL_low, Cond.initialized RL, Cond.code yL_low cL_low 2 (some .int), Cond.constant RL 9 (2147483647), Cond.methodLink RL 16 yX5_thread, Cond.instanceMethod yX5_thread, Cond.selects RX5 yX5_thread yX5_thread, Cond.initialized RX5, Cond.code yX5_thread cX5_thread 3 (some .int), Cond.fieldLink RX5 10 "ConkerHeirs" "now" "LConkerHeirs$State;", Cond.fieldLink RX5 62 "ConkerHeirs$State" "strings" "[I", Cond.fieldLink RX5 66 "ConkerHeirs$State" "conkers" "I", Cond.fieldLink RX5 25 "ConkerHeirs" "history" "LConkerHeirs$History;", Cond.methodLink RX5 54 yX5_isPlayer, Cond.static yX5_isPlayer, Cond.code yX5_isPlayer cX5_isPlayer 1 (some .boolean), Cond.methodLink RX5 58 yX5_isWithin, Cond.static yX5_isWithin, Cond.code yX5_isWithin cX5_isWithin 3 (some .boolean), Cond.methodLink RX5 70 yX1_keep, Cond.instanceMethod yX1_keep, Cond.selects RX1 yX1_keep yX1_keep]
def wsL_act_r2 : List Cond := [Cond.initialized RX1, Cond.code yX1_keep cX1_keep 2 none, Cond.fieldLink RX1 17 "ConkerHeirs$History" "held" "I", Cond.fieldLink RX1 11 "ConkerHeirs$History" "states" "[LConkerHeirs$State;", Cond.methodLink RX1 22 yX1_dropOldest, Cond.instanceMethod yX1_dropOldest, Cond.selects RX1 yX1_dropOldest yX1_dropOldest, Cond.code yX1_dropOldest cX1_dropOldest 3 none, Cond.methodLink RX1 25 yX4_copyFrom, Cond.instanceMethod yX4_copyFrom, Cond.selects RX4 yX4_copyFrom yX4_copyFrom, Cond.initialized RX4, Cond.code yX4_copyFrom cX4_copyFrom 2 none, Cond.fieldLink RX4 9 "ConkerHeirs$State" "strings" "[I", Cond.methodLink RX4 52 arraycopyName, Cond.native arraycopyName, Cond.static arraycopyName, Cond.initialized "java/lang/System", Cond.fieldLink RX4 15 "ConkerHeirs$State" "shame" "[I", Cond.fieldLink RX4 18 "ConkerHeirs$State" "owner" "[I", Cond.fieldLink RX4 21 "ConkerHeirs$State" "hardness" "[I", Cond.fieldLink RX4 24 "ConkerHeirs$State" "crack" "[I", Cond.fieldLink RX4 27 "ConkerHeirs$State" "wear" "[I", Cond.fieldLink RX4 30 "ConkerHeirs$State" "victories" "[I"]
end
section
def wsL_act_r3 : List Cond := [Cond.fieldLink RX4 33 "ConkerHeirs$State" "boasts" "[I", Cond.fieldLink RX4 36 "ConkerHeirs$State" "how" "[I", Cond.fieldLink RX4 39 "ConkerHeirs$State" "smashedBy" "[I", Cond.fieldLink RX4 42 "ConkerHeirs$State" "conkers" "I", Cond.fieldLink RX4 46 "ConkerHeirs$State" "lostVictories" "I", Cond.fieldLink RX4 49 "ConkerHeirs$State" "strikes" "I", Cond.methodLink RX5 74 yX4_addConker, Cond.instanceMethod yX4_addConker, Cond.selects RX4 yX4_addConker yX4_addConker, Cond.code yX4_addConker cX4_addConker 4 (some .int), Cond.methodLink RL 21 yX5_give, Cond.instanceMethod yX5_give, Cond.selects RX5 yX5_give yX5_give, Cond.code yX5_give cX5_give 3 (some .int), Cond.methodLink RL 24 yX5_boast, Cond.instanceMethod yX5_boast, Cond.selects RX5 yX5_boast yX5_boast, Cond.code yX5_boast cX5_boast 4 (some .int), Cond.fieldLink RX5 101 "ConkerHeirs$State" "how" "[I", Cond.fieldLink RX5 104 "ConkerHeirs$State" "boasts" "[I", Cond.methodLink RX5 98 yX4_hasConker, Cond.instanceMethod yX4_hasConker, Cond.selects RX4 yX4_hasConker yX4_hasConker, Cond.code yX4_hasConker cX4_hasConker 2 (some .boolean)]
def wsL_act_r4 : List Cond := [Cond.methodLink RL 27 yX5_doubt, Cond.instanceMethod yX5_doubt, Cond.selects RX5 yX5_doubt yX5_doubt, Cond.code yX5_doubt cX5_doubt 3 (some .int), Cond.fieldLink RX5 107 "ConkerHeirs$State" "owner" "[I", Cond.methodLink RX5 110 yX4_settleBoast, Cond.instanceMethod yX4_settleBoast, Cond.selects RX4 yX4_settleBoast yX4_settleBoast, Cond.code yX4_settleBoast cX4_settleBoast 4 (some .int), Cond.methodLink RL 30 yX5_mend, Cond.instanceMethod yX5_mend, Cond.selects RX5 yX5_mend yX5_mend, Cond.code yX5_mend cX5_mend 3 (some .int), Cond.methodLink RX5 85 yX4_mendError, Cond.instanceMethod yX4_mendError, Cond.selects RX4 yX4_mendError yX4_mendError, Cond.code yX4_mendError cX4_mendError 3 (some .int), Cond.methodLink RX4 75 yX4_fallenError, Cond.instanceMethod yX4_fallenError, Cond.selects RX4 yX4_fallenError yX4_fallenError, Cond.code yX4_fallenError cX4_fallenError 2 (some .int), Cond.methodLink RX4 67 yX4_hasConker, Cond.methodLink RX5 89 yX4_threadAgain, Cond.instanceMethod yX4_threadAgain]
def wsL_act_r5 : List Cond := [Cond.selects RX4 yX4_threadAgain yX4_threadAgain, Cond.code yX4_threadAgain cX4_threadAgain 3 (some .int), Cond.methodLink RL 34 yX5_stamp, Cond.instanceMethod yX5_stamp, Cond.selects RX5 yX5_stamp yX5_stamp, Cond.code yX5_stamp cX5_stamp 3 (some .int), Cond.methodLink RX5 92 yX4_fallenError, Cond.methodLink RX5 95 yX4_crush, Cond.instanceMethod yX4_crush, Cond.selects RX4 yX4_crush yX4_crush, Cond.code yX4_crush cX4_crush 3 (some .int), Cond.methodLink RX4 79 yX4_takeVictoriesOfSmashed, Cond.instanceMethod yX4_takeVictoriesOfSmashed, Cond.selects RX4 yX4_takeVictoriesOfSmashed yX4_takeVictoriesOfSmashed, Cond.code yX4_takeVictoriesOfSmashed cX4_takeVictoriesOfSmashed 3 (some .int), Cond.methodLink RL 38 yX5_bout, Cond.instanceMethod yX5_bout, Cond.selects RX5 yX5_bout yX5_bout, Cond.code yX5_bout cX5_bout 5 (some .int), Cond.fieldLink RX5 39 "ConkerHeirs" "draws" "LConkerHeirs$Draws;", Cond.methodLink RX5 113 yX4_boutError, Cond.instanceMethod yX4_boutError, Cond.selects RX4 yX4_boutError yX4_boutError, Cond.code yX4_boutError cX4_boutError 4 (some .int)]
def wsL_act_r6 : List Cond := [Cond.constant RX4 66 (65535), Cond.methodLink RX4 62 yX4_pairError, Cond.instanceMethod yX4_pairError, Cond.selects RX4 yX4_pairError yX4_pairError, Cond.code yX4_pairError cX4_pairError 4 (some .int), Cond.methodLink RX4 71 yX4_areInPlay, Cond.instanceMethod yX4_areInPlay, Cond.selects RX4 yX4_areInPlay yX4_areInPlay, Cond.code yX4_areInPlay cX4_areInPlay 3 (some .boolean), Cond.methodLink RX5 116 yX0_begin, Cond.instanceMethod yX0_begin, Cond.selects RX0 yX0_begin yX0_begin, Cond.initialized RX0, Cond.code yX0_begin cX0_begin 2 none, Cond.fieldLink RX0 7 "ConkerHeirs$Draws" "x" "I", Cond.methodLink RX5 120 yX4_fight, Cond.instanceMethod yX4_fight, Cond.selects RX4 yX4_fight yX4_fight, Cond.code yX4_fight cX4_fight 8 (some .int), Cond.methodLink RX4 86 Lib.Math.min.name, Cond.static Lib.Math.min.name, Cond.initialized "java/lang/Math", Cond.code Lib.Math.min.name Lib.Math.min.code 2 (some .int), Cond.methodLink RX4 103 Lib.Math.max.name]
def wsL_act_r7 : List Cond := [Cond.static Lib.Math.max.name, Cond.code Lib.Math.max.name Lib.Math.max.code 2 (some .int), Cond.methodLink RX4 106 yX0_swing, Cond.instanceMethod yX0_swing, Cond.selects RX0 yX0_swing yX0_swing, Cond.code yX0_swing cX0_swing 1 (some .int), Cond.methodLink RX0 14 yX0_next, Cond.instanceMethod yX0_next, Cond.selects RX0 yX0_next yX0_next, Cond.code yX0_next cX0_next 1 (some .int), Cond.constant RX0 13 (65536), Cond.methodLink RX4 112 yX4_hit, Cond.instanceMethod yX4_hit, Cond.selects RX4 yX4_hit yX4_hit, Cond.code yX4_hit cX4_hit 6 (some .int), Cond.methodLink RX4 82 yX4_quotient, Cond.static yX4_quotient, Cond.code yX4_quotient cX4_quotient 2 (some .int), Cond.methodLink RX4 91 yX4_settleSmashes, Cond.instanceMethod yX4_settleSmashes, Cond.selects RX4 yX4_settleSmashes yX4_settleSmashes, Cond.code yX4_settleSmashes cX4_settleSmashes 5 none, Cond.methodLink RX4 115 yX4_crush, Cond.methodLink RX4 118 yX4_inherit]
def wsL_act_r8 : List Cond := [Cond.instanceMethod yX4_inherit, Cond.selects RX4 yX4_inherit yX4_inherit, Cond.code yX4_inherit cX4_inherit 3 none, Cond.methodLink RX4 95 yX4_fallIfWorn, Cond.instanceMethod yX4_fallIfWorn, Cond.selects RX4 yX4_fallIfWorn yX4_fallIfWorn, Cond.code yX4_fallIfWorn cX4_fallIfWorn 2 none, Cond.methodLink RX4 99 yX4_outcome, Cond.instanceMethod yX4_outcome, Cond.selects RX4 yX4_outcome yX4_outcome, Cond.code yX4_outcome cX4_outcome 4 (some .int), Cond.methodLink RL 42 yX5_round, Cond.instanceMethod yX5_round, Cond.selects RX5 yX5_round yX5_round, Cond.code yX5_round cX5_round 5 (some .int), Cond.constant RX5 124 (65535), Cond.fieldLink RX5 46 "ConkerHeirs" "row" "LConkerHeirs$Row;", Cond.fieldLink RX5 128 "ConkerHeirs$Row" "length" "I", Cond.methodLink RX5 125 yX2_lineUp, Cond.instanceMethod yX2_lineUp, Cond.selects RX2 yX2_lineUp yX2_lineUp, Cond.initialized RX2, Cond.code yX2_lineUp cX2_lineUp 4 none, Cond.fieldLink RX2 15 "ConkerHeirs$Row" "length" "I"]
def wsL_act_r9 : List Cond := [Cond.methodLink RX2 19 yX4_conkerToSend, Cond.instanceMethod yX4_conkerToSend, Cond.selects RX4 yX4_conkerToSend yX4_conkerToSend, Cond.code yX4_conkerToSend cX4_conkerToSend 4 (some .int), Cond.methodLink RX2 25 yX2_insert, Cond.instanceMethod yX2_insert, Cond.selects RX2 yX2_insert yX2_insert, Cond.code yX2_insert cX2_insert 5 none, Cond.fieldLink RX2 29 "ConkerHeirs$State" "shame" "[I", Cond.fieldLink RX2 32 "ConkerHeirs$State" "owner" "[I", Cond.fieldLink RX2 9 "ConkerHeirs$Row" "conkers" "[I", Cond.methodLink RX5 131 yX0_next, Cond.methodLink RX5 135 yX2_takeOut, Cond.instanceMethod yX2_takeOut, Cond.selects RX2 yX2_takeOut yX2_takeOut, Cond.code yX2_takeOut cX2_takeOut 4 (some .int), Cond.methodLink RL 45 yX5_strike, Cond.instanceMethod yX5_strike, Cond.selects RX5 yX5_strike yX5_strike, Cond.code yX5_strike cX5_strike 5 (some .int), Cond.methodLink RX5 78 yX4_strikeError, Cond.instanceMethod yX4_strikeError, Cond.selects RX4 yX4_strikeError yX4_strikeError, Cond.code yX4_strikeError cX4_strikeError 4 (some .int)]
def wsL_act_r10 : List Cond := [Cond.methodLink RX5 82 yX4_hit]
def wsL_act : List Cond := .code yL_act cL_act 5 (some .int) :: ((wsL_act_r1 ++ (wsL_act_r2 ++ (wsL_act_r3 ++ (wsL_act_r4 ++ (wsL_act_r5 ++ (wsL_act_r6 ++ (wsL_act_r7 ++ (wsL_act_r8 ++ (wsL_act_r9 ++ wsL_act_r10))))))))) ++ wsX50 ++ wsX40 ++ wsX10 ++ wsX00 ++ wsX20)
def wsL_conkers_r1 : List Cond := [Cond.arrayClass .int, Cond.methodLink RL 48 yX5_count, Cond.instanceMethod yX5_count, Cond.selects RX5 yX5_count yX5_count, Cond.initialized RX5, Cond.code yX5_count cX5_count 2 (some .int), Cond.fieldLink RX5 10 "ConkerHeirs" "now" "LConkerHeirs$State;", Cond.fieldLink RX5 66 "ConkerHeirs$State" "conkers" "I", Cond.fieldLink RX5 203 "ConkerHeirs$State" "lostVictories" "I", Cond.fieldLink RX5 206 "ConkerHeirs$State" "strikes" "I", Cond.fieldLink RX5 25 "ConkerHeirs" "history" "LConkerHeirs$History;", Cond.fieldLink RX5 218 "ConkerHeirs$History" "held" "I", Cond.fieldLink RX5 32 "ConkerHeirs" "script" "LConkerHeirs$Script;", Cond.fieldLink RX5 138 "ConkerHeirs$Script" "length" "I", Cond.methodLink RX5 167 yX4_conkersBeing, Cond.instanceMethod yX4_conkersBeing, Cond.selects RX4 yX4_conkersBeing yX4_conkersBeing, Cond.initialized RX4, Cond.code yX4_conkersBeing cX4_conkersBeing 5 (some .int), Cond.fieldLink RX4 42 "ConkerHeirs$State" "conkers" "I", Cond.fieldLink RX4 36 "ConkerHeirs$State" "how" "[I", Cond.methodLink RX4 121 yX4_isOf, Cond.instanceMethod yX4_isOf, Cond.selects RX4 yX4_isOf yX4_isOf]
def wsL_conkers_r2 : List Cond := [Cond.code yX4_isOf cX4_isOf 3 (some .boolean), Cond.fieldLink RX4 18 "ConkerHeirs$State" "owner" "[I", Cond.methodLink RX5 191 yX4_victoriesOf, Cond.instanceMethod yX4_victoriesOf, Cond.selects RX4 yX4_victoriesOf yX4_victoriesOf, Cond.code yX4_victoriesOf cX4_victoriesOf 4 (some .int), Cond.fieldLink RX4 30 "ConkerHeirs$State" "victories" "[I", Cond.methodLink RX5 209 yX4_conkersWithHeir, Cond.instanceMethod yX4_conkersWithHeir, Cond.selects RX4 yX4_conkersWithHeir yX4_conkersWithHeir, Cond.code yX4_conkersWithHeir cX4_conkersWithHeir 1 (some .int), Cond.methodLink RX4 127 yX4_conkersSmashedBy, Cond.instanceMethod yX4_conkersSmashedBy, Cond.selects RX4 yX4_conkersSmashedBy yX4_conkersSmashedBy, Cond.code yX4_conkersSmashedBy cX4_conkersSmashedBy 4 (some .int), Cond.fieldLink RX4 39 "ConkerHeirs$State" "smashedBy" "[I", Cond.methodLink RX5 212 yX4_boastsTold, Cond.instanceMethod yX4_boastsTold, Cond.selects RX4 yX4_boastsTold yX4_boastsTold, Cond.code yX4_boastsTold cX4_boastsTold 3 (some .int), Cond.fieldLink RX4 33 "ConkerHeirs$State" "boasts" "[I", Cond.methodLink RX5 215 yX4_boastsTooHigh, Cond.instanceMethod yX4_boastsTooHigh, Cond.selects RX4 yX4_boastsTooHigh yX4_boastsTooHigh]
def wsL_conkers_r3 : List Cond := [Cond.code yX4_boastsTooHigh cX4_boastsTooHigh 3 (some .int), Cond.methodLink RL 51 yX5_conker, Cond.instanceMethod yX5_conker, Cond.selects RX5 yX5_conker yX5_conker, Cond.code yX5_conker cX5_conker 3 (some .int), Cond.fieldLink RX5 107 "ConkerHeirs$State" "owner" "[I", Cond.fieldLink RX5 170 "ConkerHeirs$State" "hardness" "[I", Cond.fieldLink RX5 173 "ConkerHeirs$State" "crack" "[I", Cond.fieldLink RX5 176 "ConkerHeirs$State" "wear" "[I", Cond.fieldLink RX5 179 "ConkerHeirs$State" "victories" "[I", Cond.fieldLink RX5 104 "ConkerHeirs$State" "boasts" "[I", Cond.fieldLink RX5 101 "ConkerHeirs$State" "how" "[I", Cond.fieldLink RX5 182 "ConkerHeirs$State" "smashedBy" "[I", Cond.methodLink RX5 98 yX4_hasConker, Cond.instanceMethod yX4_hasConker, Cond.selects RX4 yX4_hasConker yX4_hasConker, Cond.code yX4_hasConker cX4_hasConker 2 (some .boolean), Cond.static yX5_isWithin, Cond.code yX5_isWithin cX5_isWithin 3 (some .boolean), Cond.methodLink RX5 185 yX4_conkersSmashedBy, Cond.methodLink RL 54 yX5_line, Cond.instanceMethod yX5_line, Cond.selects RX5 yX5_line yX5_line, Cond.code yX5_line cX5_line 2 (some .int)]
def wsL_conkers_r4 : List Cond := [Cond.methodLink RX5 200 yX4_lengthOfLine, Cond.instanceMethod yX4_lengthOfLine, Cond.selects RX4 yX4_lengthOfLine yX4_lengthOfLine, Cond.code yX4_lengthOfLine cX4_lengthOfLine 4 (some .int), Cond.methodLink RX4 130 yX4_isInLineOf, Cond.instanceMethod yX4_isInLineOf, Cond.selects RX4 yX4_isInLineOf yX4_isInLineOf, Cond.code yX4_isInLineOf cX4_isInLineOf 5 (some .boolean), Cond.methodLink RX4 67 yX4_hasConker]
def wsL_conkers : List Cond := .code yL_conkers cL_conkers 13 (some .boolean) :: ((wsL_conkers_r1 ++ (wsL_conkers_r2 ++ (wsL_conkers_r3 ++ wsL_conkers_r4))) ++ wsX50 ++ wsX40 ++ wsX10 ++ wsX30)
def wsL_hangs_r1 : List Cond := [Cond.methodLink RL 48 yX5_count, Cond.instanceMethod yX5_count, Cond.selects RX5 yX5_count yX5_count, Cond.initialized RX5, Cond.code yX5_count cX5_count 2 (some .int), Cond.fieldLink RX5 10 "ConkerHeirs" "now" "LConkerHeirs$State;", Cond.fieldLink RX5 66 "ConkerHeirs$State" "conkers" "I", Cond.fieldLink RX5 203 "ConkerHeirs$State" "lostVictories" "I", Cond.fieldLink RX5 206 "ConkerHeirs$State" "strikes" "I", Cond.fieldLink RX5 25 "ConkerHeirs" "history" "LConkerHeirs$History;", Cond.fieldLink RX5 218 "ConkerHeirs$History" "held" "I", Cond.fieldLink RX5 32 "ConkerHeirs" "script" "LConkerHeirs$Script;", Cond.fieldLink RX5 138 "ConkerHeirs$Script" "length" "I", Cond.methodLink RX5 167 yX4_conkersBeing, Cond.instanceMethod yX4_conkersBeing, Cond.selects RX4 yX4_conkersBeing yX4_conkersBeing, Cond.initialized RX4, Cond.code yX4_conkersBeing cX4_conkersBeing 5 (some .int), Cond.fieldLink RX4 42 "ConkerHeirs$State" "conkers" "I", Cond.fieldLink RX4 36 "ConkerHeirs$State" "how" "[I", Cond.methodLink RX4 121 yX4_isOf, Cond.instanceMethod yX4_isOf, Cond.selects RX4 yX4_isOf yX4_isOf, Cond.code yX4_isOf cX4_isOf 3 (some .boolean)]
def wsL_hangs_r2 : List Cond := [Cond.fieldLink RX4 18 "ConkerHeirs$State" "owner" "[I", Cond.methodLink RX5 191 yX4_victoriesOf, Cond.instanceMethod yX4_victoriesOf, Cond.selects RX4 yX4_victoriesOf yX4_victoriesOf, Cond.code yX4_victoriesOf cX4_victoriesOf 4 (some .int), Cond.fieldLink RX4 30 "ConkerHeirs$State" "victories" "[I", Cond.methodLink RX5 209 yX4_conkersWithHeir, Cond.instanceMethod yX4_conkersWithHeir, Cond.selects RX4 yX4_conkersWithHeir yX4_conkersWithHeir, Cond.code yX4_conkersWithHeir cX4_conkersWithHeir 1 (some .int), Cond.methodLink RX4 127 yX4_conkersSmashedBy, Cond.instanceMethod yX4_conkersSmashedBy, Cond.selects RX4 yX4_conkersSmashedBy yX4_conkersSmashedBy, Cond.code yX4_conkersSmashedBy cX4_conkersSmashedBy 4 (some .int), Cond.fieldLink RX4 39 "ConkerHeirs$State" "smashedBy" "[I", Cond.methodLink RX5 212 yX4_boastsTold, Cond.instanceMethod yX4_boastsTold, Cond.selects RX4 yX4_boastsTold yX4_boastsTold, Cond.code yX4_boastsTold cX4_boastsTold 3 (some .int), Cond.fieldLink RX4 33 "ConkerHeirs$State" "boasts" "[I", Cond.methodLink RX5 215 yX4_boastsTooHigh, Cond.instanceMethod yX4_boastsTooHigh, Cond.selects RX4 yX4_boastsTooHigh yX4_boastsTooHigh, Cond.code yX4_boastsTooHigh cX4_boastsTooHigh 3 (some .int)]
def wsL_hangs_r3 : List Cond := [Cond.methodLink RL 57 yX5_ranked, Cond.instanceMethod yX5_ranked, Cond.selects RX5 yX5_ranked yX5_ranked, Cond.code yX5_ranked cX5_ranked 2 (some .int), Cond.methodLink RX5 197 yX4_conkerAtRank, Cond.instanceMethod yX4_conkerAtRank, Cond.selects RX4 yX4_conkerAtRank yX4_conkerAtRank, Cond.code yX4_conkerAtRank cX4_conkerAtRank 3 (some .int), Cond.methodLink RX4 124 yX4_conkersAheadOf, Cond.instanceMethod yX4_conkersAheadOf, Cond.selects RX4 yX4_conkersAheadOf yX4_conkersAheadOf, Cond.code yX4_conkersAheadOf cX4_conkersAheadOf 6 (some .int), Cond.methodLink RL 51 yX5_conker, Cond.instanceMethod yX5_conker, Cond.selects RX5 yX5_conker yX5_conker, Cond.code yX5_conker cX5_conker 3 (some .int), Cond.fieldLink RX5 107 "ConkerHeirs$State" "owner" "[I", Cond.fieldLink RX5 170 "ConkerHeirs$State" "hardness" "[I", Cond.fieldLink RX5 173 "ConkerHeirs$State" "crack" "[I", Cond.fieldLink RX5 176 "ConkerHeirs$State" "wear" "[I", Cond.fieldLink RX5 179 "ConkerHeirs$State" "victories" "[I", Cond.fieldLink RX5 104 "ConkerHeirs$State" "boasts" "[I", Cond.fieldLink RX5 101 "ConkerHeirs$State" "how" "[I", Cond.fieldLink RX5 182 "ConkerHeirs$State" "smashedBy" "[I"]
def wsL_hangs_r4 : List Cond := [Cond.methodLink RX5 98 yX4_hasConker, Cond.instanceMethod yX4_hasConker, Cond.selects RX4 yX4_hasConker yX4_hasConker, Cond.code yX4_hasConker cX4_hasConker 2 (some .boolean), Cond.static yX5_isWithin, Cond.code yX5_isWithin cX5_isWithin 3 (some .boolean), Cond.methodLink RX5 185 yX4_conkersSmashedBy, Cond.methodLink RL 60 yX5_player, Cond.instanceMethod yX5_player, Cond.selects RX5 yX5_player yX5_player, Cond.code yX5_player cX5_player 3 (some .int), Cond.fieldLink RX5 62 "ConkerHeirs$State" "strings" "[I", Cond.fieldLink RX5 188 "ConkerHeirs$State" "shame" "[I", Cond.methodLink RX5 54 yX5_isPlayer, Cond.static yX5_isPlayer, Cond.code yX5_isPlayer cX5_isPlayer 1 (some .boolean), Cond.methodLink RX5 58 yX5_isWithin, Cond.methodLink RX5 194 yX4_conkerToSend, Cond.instanceMethod yX4_conkerToSend, Cond.selects RX4 yX4_conkerToSend yX4_conkerToSend, Cond.code yX4_conkerToSend cX4_conkerToSend 4 (some .int), Cond.methodLink RL 63 yX5_share, Cond.instanceMethod yX5_share, Cond.selects RX5 yX5_share yX5_share]
def wsL_hangs_r5 : List Cond := [Cond.code yX5_share cX5_share 3 (some .float), Cond.methodLink RL 67 yL_conkers, Cond.static yL_conkers, Cond.initialized RL, Cond.code yL_conkers cL_conkers 13 (some .boolean), Cond.arrayClass .int, Cond.methodLink RL 54 yX5_line, Cond.instanceMethod yX5_line, Cond.selects RX5 yX5_line yX5_line, Cond.code yX5_line cX5_line 2 (some .int), Cond.methodLink RX5 200 yX4_lengthOfLine, Cond.instanceMethod yX4_lengthOfLine, Cond.selects RX4 yX4_lengthOfLine yX4_lengthOfLine, Cond.code yX4_lengthOfLine cX4_lengthOfLine 4 (some .int), Cond.methodLink RX4 130 yX4_isInLineOf, Cond.instanceMethod yX4_isInLineOf, Cond.selects RX4 yX4_isInLineOf yX4_isInLineOf, Cond.code yX4_isInLineOf cX4_isInLineOf 5 (some .boolean), Cond.methodLink RX4 67 yX4_hasConker]
def wsL_hangs : List Cond := .code yL_hangs cL_hangs 10 (some .boolean) :: ((wsL_hangs_r1 ++ (wsL_hangs_r2 ++ (wsL_hangs_r3 ++ (wsL_hangs_r4 ++ wsL_hangs_r5)))) ++ wsX50 ++ wsX40 ++ wsX10 ++ wsX30)
def wsL_print_r1 : List Cond := [Cond.constantLong RL 71 (23), Cond.constantLong RL 73 (31), Cond.methodLink RL 48 yX5_count, Cond.instanceMethod yX5_count, Cond.selects RX5 yX5_count yX5_count, Cond.initialized RX5, Cond.code yX5_count cX5_count 2 (some .int), Cond.fieldLink RX5 10 "ConkerHeirs" "now" "LConkerHeirs$State;", Cond.fieldLink RX5 66 "ConkerHeirs$State" "conkers" "I", Cond.fieldLink RX5 203 "ConkerHeirs$State" "lostVictories" "I", Cond.fieldLink RX5 206 "ConkerHeirs$State" "strikes" "I", Cond.fieldLink RX5 25 "ConkerHeirs" "history" "LConkerHeirs$History;", Cond.fieldLink RX5 218 "ConkerHeirs$History" "held" "I", Cond.fieldLink RX5 32 "ConkerHeirs" "script" "LConkerHeirs$Script;", Cond.fieldLink RX5 138 "ConkerHeirs$Script" "length" "I", Cond.methodLink RX5 167 yX4_conkersBeing, Cond.instanceMethod yX4_conkersBeing, Cond.selects RX4 yX4_conkersBeing yX4_conkersBeing, Cond.initialized RX4, Cond.code yX4_conkersBeing cX4_conkersBeing 5 (some .int), Cond.fieldLink RX4 42 "ConkerHeirs$State" "conkers" "I", Cond.fieldLink RX4 36 "ConkerHeirs$State" "how" "[I", Cond.methodLink RX4 121 yX4_isOf, Cond.instanceMethod yX4_isOf]
def wsL_print_r2 : List Cond := [Cond.selects RX4 yX4_isOf yX4_isOf, Cond.code yX4_isOf cX4_isOf 3 (some .boolean), Cond.fieldLink RX4 18 "ConkerHeirs$State" "owner" "[I", Cond.methodLink RX5 191 yX4_victoriesOf, Cond.instanceMethod yX4_victoriesOf, Cond.selects RX4 yX4_victoriesOf yX4_victoriesOf, Cond.code yX4_victoriesOf cX4_victoriesOf 4 (some .int), Cond.fieldLink RX4 30 "ConkerHeirs$State" "victories" "[I", Cond.methodLink RX5 209 yX4_conkersWithHeir, Cond.instanceMethod yX4_conkersWithHeir, Cond.selects RX4 yX4_conkersWithHeir yX4_conkersWithHeir, Cond.code yX4_conkersWithHeir cX4_conkersWithHeir 1 (some .int), Cond.methodLink RX4 127 yX4_conkersSmashedBy, Cond.instanceMethod yX4_conkersSmashedBy, Cond.selects RX4 yX4_conkersSmashedBy yX4_conkersSmashedBy, Cond.code yX4_conkersSmashedBy cX4_conkersSmashedBy 4 (some .int), Cond.fieldLink RX4 39 "ConkerHeirs$State" "smashedBy" "[I", Cond.methodLink RX5 212 yX4_boastsTold, Cond.instanceMethod yX4_boastsTold, Cond.selects RX4 yX4_boastsTold yX4_boastsTold, Cond.code yX4_boastsTold cX4_boastsTold 3 (some .int), Cond.fieldLink RX4 33 "ConkerHeirs$State" "boasts" "[I", Cond.methodLink RX5 215 yX4_boastsTooHigh, Cond.instanceMethod yX4_boastsTooHigh]
def wsL_print_r3 : List Cond := [Cond.selects RX4 yX4_boastsTooHigh yX4_boastsTooHigh, Cond.code yX4_boastsTooHigh cX4_boastsTooHigh 3 (some .int), Cond.methodLink RL 51 yX5_conker, Cond.instanceMethod yX5_conker, Cond.selects RX5 yX5_conker yX5_conker, Cond.code yX5_conker cX5_conker 3 (some .int), Cond.fieldLink RX5 107 "ConkerHeirs$State" "owner" "[I", Cond.fieldLink RX5 170 "ConkerHeirs$State" "hardness" "[I", Cond.fieldLink RX5 173 "ConkerHeirs$State" "crack" "[I", Cond.fieldLink RX5 176 "ConkerHeirs$State" "wear" "[I", Cond.fieldLink RX5 179 "ConkerHeirs$State" "victories" "[I", Cond.fieldLink RX5 104 "ConkerHeirs$State" "boasts" "[I", Cond.fieldLink RX5 101 "ConkerHeirs$State" "how" "[I", Cond.fieldLink RX5 182 "ConkerHeirs$State" "smashedBy" "[I", Cond.methodLink RX5 98 yX4_hasConker, Cond.instanceMethod yX4_hasConker, Cond.selects RX4 yX4_hasConker yX4_hasConker, Cond.code yX4_hasConker cX4_hasConker 2 (some .boolean), Cond.static yX5_isWithin, Cond.code yX5_isWithin cX5_isWithin 3 (some .boolean), Cond.methodLink RX5 185 yX4_conkersSmashedBy, Cond.methodLink RL 60 yX5_player, Cond.instanceMethod yX5_player, Cond.selects RX5 yX5_player yX5_player]
def wsL_print_r4 : List Cond := [Cond.code yX5_player cX5_player 3 (some .int), Cond.fieldLink RX5 62 "ConkerHeirs$State" "strings" "[I", Cond.fieldLink RX5 188 "ConkerHeirs$State" "shame" "[I", Cond.methodLink RX5 54 yX5_isPlayer, Cond.static yX5_isPlayer, Cond.code yX5_isPlayer cX5_isPlayer 1 (some .boolean), Cond.methodLink RX5 58 yX5_isWithin, Cond.methodLink RX5 194 yX4_conkerToSend, Cond.instanceMethod yX4_conkerToSend, Cond.selects RX4 yX4_conkerToSend yX4_conkerToSend, Cond.code yX4_conkerToSend cX4_conkerToSend 4 (some .int)]
def wsL_print : List Cond := .code yL_print cL_print 4 (some .long) :: ((wsL_print_r1 ++ (wsL_print_r2 ++ (wsL_print_r3 ++ wsL_print_r4))) ++ wsX50 ++ wsX40 ++ wsX10 ++ wsX30)
def wsL_strikes_r1 : List Cond := [Cond.methodLink RL 75 yX5_ifStruck, Cond.instanceMethod yX5_ifStruck, Cond.selects RX5 yX5_ifStruck yX5_ifStruck, Cond.initialized RX5, Cond.code yX5_ifStruck cX5_ifStruck 5 (some .int), Cond.fieldLink RX5 10 "ConkerHeirs" "now" "LConkerHeirs$State;", Cond.methodLink RX5 78 yX4_strikeError, Cond.instanceMethod yX4_strikeError, Cond.selects RX4 yX4_strikeError yX4_strikeError, Cond.initialized RX4, Cond.code yX4_strikeError cX4_strikeError 4 (some .int), Cond.static yX5_isWithin, Cond.code yX5_isWithin cX5_isWithin 3 (some .boolean), Cond.methodLink RX4 62 yX4_pairError, Cond.instanceMethod yX4_pairError, Cond.selects RX4 yX4_pairError yX4_pairError, Cond.code yX4_pairError cX4_pairError 4 (some .int), Cond.fieldLink RX4 18 "ConkerHeirs$State" "owner" "[I", Cond.methodLink RX4 67 yX4_hasConker, Cond.instanceMethod yX4_hasConker, Cond.selects RX4 yX4_hasConker yX4_hasConker, Cond.code yX4_hasConker cX4_hasConker 2 (some .boolean), Cond.fieldLink RX4 42 "ConkerHeirs$State" "conkers" "I", Cond.methodLink RX4 71 yX4_areInPlay]
def wsL_strikes_r2 : List Cond := [Cond.instanceMethod yX4_areInPlay, Cond.selects RX4 yX4_areInPlay yX4_areInPlay, Cond.code yX4_areInPlay cX4_areInPlay 3 (some .boolean), Cond.fieldLink RX4 36 "ConkerHeirs$State" "how" "[I", Cond.methodLink RX5 221 yX5_tryHit, Cond.instanceMethod yX5_tryHit, Cond.selects RX5 yX5_tryHit yX5_tryHit, Cond.code yX5_tryHit cX5_tryHit 4 (some .int), Cond.fieldLink RX5 19 "ConkerHeirs" "trial" "LConkerHeirs$State;", Cond.methodLink RX5 164 yX4_copyFrom, Cond.instanceMethod yX4_copyFrom, Cond.selects RX4 yX4_copyFrom yX4_copyFrom, Cond.code yX4_copyFrom cX4_copyFrom 2 none, Cond.fieldLink RX4 9 "ConkerHeirs$State" "strings" "[I", Cond.methodLink RX4 52 arraycopyName, Cond.native arraycopyName, Cond.static arraycopyName, Cond.initialized "java/lang/System", Cond.fieldLink RX4 15 "ConkerHeirs$State" "shame" "[I", Cond.fieldLink RX4 21 "ConkerHeirs$State" "hardness" "[I", Cond.fieldLink RX4 24 "ConkerHeirs$State" "crack" "[I", Cond.fieldLink RX4 27 "ConkerHeirs$State" "wear" "[I", Cond.fieldLink RX4 30 "ConkerHeirs$State" "victories" "[I", Cond.fieldLink RX4 33 "ConkerHeirs$State" "boasts" "[I"]
def wsL_strikes_r3 : List Cond := [Cond.fieldLink RX4 39 "ConkerHeirs$State" "smashedBy" "[I", Cond.fieldLink RX4 46 "ConkerHeirs$State" "lostVictories" "I", Cond.fieldLink RX4 49 "ConkerHeirs$State" "strikes" "I", Cond.methodLink RX5 82 yX4_hit, Cond.instanceMethod yX4_hit, Cond.selects RX4 yX4_hit yX4_hit, Cond.code yX4_hit cX4_hit 6 (some .int), Cond.methodLink RX4 86 Lib.Math.min.name, Cond.static Lib.Math.min.name, Cond.initialized "java/lang/Math", Cond.code Lib.Math.min.name Lib.Math.min.code 2 (some .int), Cond.methodLink RX4 82 yX4_quotient, Cond.static yX4_quotient, Cond.code yX4_quotient cX4_quotient 2 (some .int), Cond.methodLink RX4 91 yX4_settleSmashes, Cond.instanceMethod yX4_settleSmashes, Cond.selects RX4 yX4_settleSmashes yX4_settleSmashes, Cond.code yX4_settleSmashes cX4_settleSmashes 5 none, Cond.methodLink RX4 115 yX4_crush, Cond.instanceMethod yX4_crush, Cond.selects RX4 yX4_crush yX4_crush, Cond.code yX4_crush cX4_crush 3 (some .int), Cond.methodLink RX4 79 yX4_takeVictoriesOfSmashed, Cond.instanceMethod yX4_takeVictoriesOfSmashed]
def wsL_strikes_r4 : List Cond := [Cond.selects RX4 yX4_takeVictoriesOfSmashed yX4_takeVictoriesOfSmashed, Cond.code yX4_takeVictoriesOfSmashed cX4_takeVictoriesOfSmashed 3 (some .int), Cond.methodLink RX4 118 yX4_inherit, Cond.instanceMethod yX4_inherit, Cond.selects RX4 yX4_inherit yX4_inherit, Cond.code yX4_inherit cX4_inherit 3 none, Cond.methodLink RX4 95 yX4_fallIfWorn, Cond.instanceMethod yX4_fallIfWorn, Cond.selects RX4 yX4_fallIfWorn yX4_fallIfWorn, Cond.code yX4_fallIfWorn cX4_fallIfWorn 2 none, Cond.methodLink RX4 99 yX4_outcome, Cond.instanceMethod yX4_outcome, Cond.selects RX4 yX4_outcome yX4_outcome, Cond.code yX4_outcome cX4_outcome 4 (some .int), Cond.methodLink RL 78 yX5_leastSwing, Cond.instanceMethod yX5_leastSwing, Cond.selects RX5 yX5_leastSwing yX5_leastSwing, Cond.code yX5_leastSwing cX5_leastSwing 6 (some .int), Cond.methodLink RL 81 yL_print, Cond.static yL_print, Cond.initialized RL, Cond.code yL_print cL_print 4 (some .long), Cond.constantLong RL 71 (23), Cond.constantLong RL 73 (31)]
def wsL_strikes_r5 : List Cond := [Cond.methodLink RL 48 yX5_count, Cond.instanceMethod yX5_count, Cond.selects RX5 yX5_count yX5_count, Cond.code yX5_count cX5_count 2 (some .int), Cond.fieldLink RX5 66 "ConkerHeirs$State" "conkers" "I", Cond.fieldLink RX5 203 "ConkerHeirs$State" "lostVictories" "I", Cond.fieldLink RX5 206 "ConkerHeirs$State" "strikes" "I", Cond.fieldLink RX5 25 "ConkerHeirs" "history" "LConkerHeirs$History;", Cond.fieldLink RX5 218 "ConkerHeirs$History" "held" "I", Cond.fieldLink RX5 32 "ConkerHeirs" "script" "LConkerHeirs$Script;", Cond.fieldLink RX5 138 "ConkerHeirs$Script" "length" "I", Cond.methodLink RX5 167 yX4_conkersBeing, Cond.instanceMethod yX4_conkersBeing, Cond.selects RX4 yX4_conkersBeing yX4_conkersBeing, Cond.code yX4_conkersBeing cX4_conkersBeing 5 (some .int), Cond.methodLink RX4 121 yX4_isOf, Cond.instanceMethod yX4_isOf, Cond.selects RX4 yX4_isOf yX4_isOf, Cond.code yX4_isOf cX4_isOf 3 (some .boolean), Cond.methodLink RX5 191 yX4_victoriesOf, Cond.instanceMethod yX4_victoriesOf, Cond.selects RX4 yX4_victoriesOf yX4_victoriesOf, Cond.code yX4_victoriesOf cX4_victoriesOf 4 (some .int), Cond.methodLink RX5 209 yX4_conkersWithHeir]
def wsL_strikes_r6 : List Cond := [Cond.instanceMethod yX4_conkersWithHeir, Cond.selects RX4 yX4_conkersWithHeir yX4_conkersWithHeir, Cond.code yX4_conkersWithHeir cX4_conkersWithHeir 1 (some .int), Cond.methodLink RX4 127 yX4_conkersSmashedBy, Cond.instanceMethod yX4_conkersSmashedBy, Cond.selects RX4 yX4_conkersSmashedBy yX4_conkersSmashedBy, Cond.code yX4_conkersSmashedBy cX4_conkersSmashedBy 4 (some .int), Cond.methodLink RX5 212 yX4_boastsTold, Cond.instanceMethod yX4_boastsTold, Cond.selects RX4 yX4_boastsTold yX4_boastsTold, Cond.code yX4_boastsTold cX4_boastsTold 3 (some .int), Cond.methodLink RX5 215 yX4_boastsTooHigh, Cond.instanceMethod yX4_boastsTooHigh, Cond.selects RX4 yX4_boastsTooHigh yX4_boastsTooHigh, Cond.code yX4_boastsTooHigh cX4_boastsTooHigh 3 (some .int), Cond.methodLink RL 51 yX5_conker, Cond.instanceMethod yX5_conker, Cond.selects RX5 yX5_conker yX5_conker, Cond.code yX5_conker cX5_conker 3 (some .int), Cond.fieldLink RX5 107 "ConkerHeirs$State" "owner" "[I", Cond.fieldLink RX5 170 "ConkerHeirs$State" "hardness" "[I", Cond.fieldLink RX5 173 "ConkerHeirs$State" "crack" "[I", Cond.fieldLink RX5 176 "ConkerHeirs$State" "wear" "[I", Cond.fieldLink RX5 179 "ConkerHeirs$State" "victories" "[I"]
def wsL_strikes_r7 : List Cond := [Cond.fieldLink RX5 104 "ConkerHeirs$State" "boasts" "[I", Cond.fieldLink RX5 101 "ConkerHeirs$State" "how" "[I", Cond.fieldLink RX5 182 "ConkerHeirs$State" "smashedBy" "[I", Cond.methodLink RX5 98 yX4_hasConker, Cond.methodLink RX5 185 yX4_conkersSmashedBy, Cond.methodLink RL 60 yX5_player, Cond.instanceMethod yX5_player, Cond.selects RX5 yX5_player yX5_player, Cond.code yX5_player cX5_player 3 (some .int), Cond.fieldLink RX5 62 "ConkerHeirs$State" "strings" "[I", Cond.fieldLink RX5 188 "ConkerHeirs$State" "shame" "[I", Cond.methodLink RX5 54 yX5_isPlayer, Cond.static yX5_isPlayer, Cond.code yX5_isPlayer cX5_isPlayer 1 (some .boolean), Cond.methodLink RX5 58 yX5_isWithin, Cond.methodLink RX5 194 yX4_conkerToSend, Cond.instanceMethod yX4_conkerToSend, Cond.selects RX4 yX4_conkerToSend yX4_conkerToSend, Cond.code yX4_conkerToSend cX4_conkerToSend 4 (some .int), Cond.methodLink RL 45 yX5_strike, Cond.instanceMethod yX5_strike, Cond.selects RX5 yX5_strike yX5_strike, Cond.code yX5_strike cX5_strike 5 (some .int), Cond.methodLink RX5 70 yX1_keep]
def wsL_strikes_r8 : List Cond := [Cond.instanceMethod yX1_keep, Cond.selects RX1 yX1_keep yX1_keep, Cond.initialized RX1, Cond.code yX1_keep cX1_keep 2 none, Cond.fieldLink RX1 17 "ConkerHeirs$History" "held" "I", Cond.fieldLink RX1 11 "ConkerHeirs$History" "states" "[LConkerHeirs$State;", Cond.methodLink RX1 22 yX1_dropOldest, Cond.instanceMethod yX1_dropOldest, Cond.selects RX1 yX1_dropOldest yX1_dropOldest, Cond.code yX1_dropOldest cX1_dropOldest 3 none, Cond.methodLink RX1 25 yX4_copyFrom, Cond.methodLink RL 67 yL_conkers, Cond.static yL_conkers, Cond.code yL_conkers cL_conkers 13 (some .boolean), Cond.arrayClass .int, Cond.methodLink RL 54 yX5_line, Cond.instanceMethod yX5_line, Cond.selects RX5 yX5_line yX5_line, Cond.code yX5_line cX5_line 2 (some .int), Cond.methodLink RX5 200 yX4_lengthOfLine, Cond.instanceMethod yX4_lengthOfLine, Cond.selects RX4 yX4_lengthOfLine yX4_lengthOfLine, Cond.code yX4_lengthOfLine cX4_lengthOfLine 4 (some .int), Cond.methodLink RX4 130 yX4_isInLineOf]
def wsL_strikes_r9 : List Cond := [Cond.instanceMethod yX4_isInLineOf, Cond.selects RX4 yX4_isInLineOf yX4_isInLineOf, Cond.code yX4_isInLineOf cX4_isInLineOf 5 (some .boolean), Cond.methodLink RL 85 yX5_undo, Cond.instanceMethod yX5_undo, Cond.selects RX5 yX5_undo yX5_undo, Cond.code yX5_undo cX5_undo 1 (some .int), Cond.methodLink RX5 160 yX1_bringBack, Cond.instanceMethod yX1_bringBack, Cond.selects RX1 yX1_bringBack yX1_bringBack, Cond.code yX1_bringBack cX1_bringBack 2 (some .int)]
def wsL_strikes : List Cond := .code yL_strikes cL_strikes 12 (some .boolean) :: ((wsL_strikes_r1 ++ (wsL_strikes_r2 ++ (wsL_strikes_r3 ++ (wsL_strikes_r4 ++ (wsL_strikes_r5 ++ (wsL_strikes_r6 ++ (wsL_strikes_r7 ++ (wsL_strikes_r8 ++ wsL_strikes_r9)))))))) ++ wsX50 ++ wsX40 ++ wsX10 ++ wsX30)
def wsL_fights_r1 : List Cond := [Cond.methodLink RL 89 yX5_winner, Cond.instanceMethod yX5_winner, Cond.selects RX5 yX5_winner yX5_winner, Cond.initialized RX5, Cond.code yX5_winner cX5_winner 7 (some .int), Cond.fieldLink RX5 10 "ConkerHeirs" "now" "LConkerHeirs$State;", Cond.fieldLink RX5 19 "ConkerHeirs" "trial" "LConkerHeirs$State;", Cond.fieldLink RX5 39 "ConkerHeirs" "draws" "LConkerHeirs$Draws;", Cond.fieldLink RX5 101 "ConkerHeirs$State" "how" "[I", Cond.methodLink RX5 113 yX4_boutError, Cond.instanceMethod yX4_boutError, Cond.selects RX4 yX4_boutError yX4_boutError, Cond.initialized RX4, Cond.code yX4_boutError cX4_boutError 4 (some .int), Cond.constant RX4 66 (65535), Cond.static yX5_isWithin, Cond.code yX5_isWithin cX5_isWithin 3 (some .boolean), Cond.methodLink RX4 62 yX4_pairError, Cond.instanceMethod yX4_pairError, Cond.selects RX4 yX4_pairError yX4_pairError, Cond.code yX4_pairError cX4_pairError 4 (some .int), Cond.fieldLink RX4 18 "ConkerHeirs$State" "owner" "[I", Cond.methodLink RX4 67 yX4_hasConker, Cond.instanceMethod yX4_hasConker]
def wsL_fights_r2 : List Cond := [Cond.selects RX4 yX4_hasConker yX4_hasConker, Cond.code yX4_hasConker cX4_hasConker 2 (some .boolean), Cond.fieldLink RX4 42 "ConkerHeirs$State" "conkers" "I", Cond.methodLink RX4 71 yX4_areInPlay, Cond.instanceMethod yX4_areInPlay, Cond.selects RX4 yX4_areInPlay yX4_areInPlay, Cond.code yX4_areInPlay cX4_areInPlay 3 (some .boolean), Cond.fieldLink RX4 36 "ConkerHeirs$State" "how" "[I", Cond.methodLink RX5 164 yX4_copyFrom, Cond.instanceMethod yX4_copyFrom, Cond.selects RX4 yX4_copyFrom yX4_copyFrom, Cond.code yX4_copyFrom cX4_copyFrom 2 none, Cond.fieldLink RX4 9 "ConkerHeirs$State" "strings" "[I", Cond.methodLink RX4 52 arraycopyName, Cond.native arraycopyName, Cond.static arraycopyName, Cond.initialized "java/lang/System", Cond.fieldLink RX4 15 "ConkerHeirs$State" "shame" "[I", Cond.fieldLink RX4 21 "ConkerHeirs$State" "hardness" "[I", Cond.fieldLink RX4 24 "ConkerHeirs$State" "crack" "[I", Cond.fieldLink RX4 27 "ConkerHeirs$State" "wear" "[I", Cond.fieldLink RX4 30 "ConkerHeirs$State" "victories" "[I", Cond.fieldLink RX4 33 "ConkerHeirs$State" "boasts" "[I", Cond.fieldLink RX4 39 "ConkerHeirs$State" "smashedBy" "[I"]
def wsL_fights_r3 : List Cond := [Cond.fieldLink RX4 46 "ConkerHeirs$State" "lostVictories" "I", Cond.fieldLink RX4 49 "ConkerHeirs$State" "strikes" "I", Cond.methodLink RX5 116 yX0_begin, Cond.instanceMethod yX0_begin, Cond.selects RX0 yX0_begin yX0_begin, Cond.initialized RX0, Cond.code yX0_begin cX0_begin 2 none, Cond.fieldLink RX0 7 "ConkerHeirs$Draws" "x" "I", Cond.methodLink RX5 120 yX4_fight, Cond.instanceMethod yX4_fight, Cond.selects RX4 yX4_fight yX4_fight, Cond.code yX4_fight cX4_fight 8 (some .int), Cond.methodLink RX4 86 Lib.Math.min.name, Cond.static Lib.Math.min.name, Cond.initialized "java/lang/Math", Cond.code Lib.Math.min.name Lib.Math.min.code 2 (some .int), Cond.methodLink RX4 103 Lib.Math.max.name, Cond.static Lib.Math.max.name, Cond.code Lib.Math.max.name Lib.Math.max.code 2 (some .int), Cond.methodLink RX4 106 yX0_swing, Cond.instanceMethod yX0_swing, Cond.selects RX0 yX0_swing yX0_swing, Cond.code yX0_swing cX0_swing 1 (some .int), Cond.methodLink RX0 14 yX0_next]
def wsL_fights_r4 : List Cond := [Cond.instanceMethod yX0_next, Cond.selects RX0 yX0_next yX0_next, Cond.code yX0_next cX0_next 1 (some .int), Cond.constant RX0 13 (65536), Cond.methodLink RX4 112 yX4_hit, Cond.instanceMethod yX4_hit, Cond.selects RX4 yX4_hit yX4_hit, Cond.code yX4_hit cX4_hit 6 (some .int), Cond.methodLink RX4 82 yX4_quotient, Cond.static yX4_quotient, Cond.code yX4_quotient cX4_quotient 2 (some .int), Cond.methodLink RX4 91 yX4_settleSmashes, Cond.instanceMethod yX4_settleSmashes, Cond.selects RX4 yX4_settleSmashes yX4_settleSmashes, Cond.code yX4_settleSmashes cX4_settleSmashes 5 none, Cond.methodLink RX4 115 yX4_crush, Cond.instanceMethod yX4_crush, Cond.selects RX4 yX4_crush yX4_crush, Cond.code yX4_crush cX4_crush 3 (some .int), Cond.methodLink RX4 79 yX4_takeVictoriesOfSmashed, Cond.instanceMethod yX4_takeVictoriesOfSmashed, Cond.selects RX4 yX4_takeVictoriesOfSmashed yX4_takeVictoriesOfSmashed, Cond.code yX4_takeVictoriesOfSmashed cX4_takeVictoriesOfSmashed 3 (some .int), Cond.methodLink RX4 118 yX4_inherit]
def wsL_fights_r5 : List Cond := [Cond.instanceMethod yX4_inherit, Cond.selects RX4 yX4_inherit yX4_inherit, Cond.code yX4_inherit cX4_inherit 3 none, Cond.methodLink RX4 95 yX4_fallIfWorn, Cond.instanceMethod yX4_fallIfWorn, Cond.selects RX4 yX4_fallIfWorn yX4_fallIfWorn, Cond.code yX4_fallIfWorn cX4_fallIfWorn 2 none, Cond.methodLink RX4 99 yX4_outcome, Cond.instanceMethod yX4_outcome, Cond.selects RX4 yX4_outcome yX4_outcome, Cond.code yX4_outcome cX4_outcome 4 (some .int), Cond.methodLink RL 81 yL_print, Cond.static yL_print, Cond.initialized RL, Cond.code yL_print cL_print 4 (some .long), Cond.constantLong RL 71 (23), Cond.constantLong RL 73 (31), Cond.methodLink RL 48 yX5_count, Cond.instanceMethod yX5_count, Cond.selects RX5 yX5_count yX5_count, Cond.code yX5_count cX5_count 2 (some .int), Cond.fieldLink RX5 66 "ConkerHeirs$State" "conkers" "I", Cond.fieldLink RX5 203 "ConkerHeirs$State" "lostVictories" "I", Cond.fieldLink RX5 206 "ConkerHeirs$State" "strikes" "I"]
def wsL_fights_r6 : List Cond := [Cond.fieldLink RX5 25 "ConkerHeirs" "history" "LConkerHeirs$History;", Cond.fieldLink RX5 218 "ConkerHeirs$History" "held" "I", Cond.fieldLink RX5 32 "ConkerHeirs" "script" "LConkerHeirs$Script;", Cond.fieldLink RX5 138 "ConkerHeirs$Script" "length" "I", Cond.methodLink RX5 167 yX4_conkersBeing, Cond.instanceMethod yX4_conkersBeing, Cond.selects RX4 yX4_conkersBeing yX4_conkersBeing, Cond.code yX4_conkersBeing cX4_conkersBeing 5 (some .int), Cond.methodLink RX4 121 yX4_isOf, Cond.instanceMethod yX4_isOf, Cond.selects RX4 yX4_isOf yX4_isOf, Cond.code yX4_isOf cX4_isOf 3 (some .boolean), Cond.methodLink RX5 191 yX4_victoriesOf, Cond.instanceMethod yX4_victoriesOf, Cond.selects RX4 yX4_victoriesOf yX4_victoriesOf, Cond.code yX4_victoriesOf cX4_victoriesOf 4 (some .int), Cond.methodLink RX5 209 yX4_conkersWithHeir, Cond.instanceMethod yX4_conkersWithHeir, Cond.selects RX4 yX4_conkersWithHeir yX4_conkersWithHeir, Cond.code yX4_conkersWithHeir cX4_conkersWithHeir 1 (some .int), Cond.methodLink RX4 127 yX4_conkersSmashedBy, Cond.instanceMethod yX4_conkersSmashedBy, Cond.selects RX4 yX4_conkersSmashedBy yX4_conkersSmashedBy, Cond.code yX4_conkersSmashedBy cX4_conkersSmashedBy 4 (some .int)]
def wsL_fights_r7 : List Cond := [Cond.methodLink RX5 212 yX4_boastsTold, Cond.instanceMethod yX4_boastsTold, Cond.selects RX4 yX4_boastsTold yX4_boastsTold, Cond.code yX4_boastsTold cX4_boastsTold 3 (some .int), Cond.methodLink RX5 215 yX4_boastsTooHigh, Cond.instanceMethod yX4_boastsTooHigh, Cond.selects RX4 yX4_boastsTooHigh yX4_boastsTooHigh, Cond.code yX4_boastsTooHigh cX4_boastsTooHigh 3 (some .int), Cond.methodLink RL 51 yX5_conker, Cond.instanceMethod yX5_conker, Cond.selects RX5 yX5_conker yX5_conker, Cond.code yX5_conker cX5_conker 3 (some .int), Cond.fieldLink RX5 107 "ConkerHeirs$State" "owner" "[I", Cond.fieldLink RX5 170 "ConkerHeirs$State" "hardness" "[I", Cond.fieldLink RX5 173 "ConkerHeirs$State" "crack" "[I", Cond.fieldLink RX5 176 "ConkerHeirs$State" "wear" "[I", Cond.fieldLink RX5 179 "ConkerHeirs$State" "victories" "[I", Cond.fieldLink RX5 104 "ConkerHeirs$State" "boasts" "[I", Cond.fieldLink RX5 182 "ConkerHeirs$State" "smashedBy" "[I", Cond.methodLink RX5 98 yX4_hasConker, Cond.methodLink RX5 185 yX4_conkersSmashedBy, Cond.methodLink RL 60 yX5_player, Cond.instanceMethod yX5_player, Cond.selects RX5 yX5_player yX5_player]
def wsL_fights_r8 : List Cond := [Cond.code yX5_player cX5_player 3 (some .int), Cond.fieldLink RX5 62 "ConkerHeirs$State" "strings" "[I", Cond.fieldLink RX5 188 "ConkerHeirs$State" "shame" "[I", Cond.methodLink RX5 54 yX5_isPlayer, Cond.static yX5_isPlayer, Cond.code yX5_isPlayer cX5_isPlayer 1 (some .boolean), Cond.methodLink RX5 58 yX5_isWithin, Cond.methodLink RX5 194 yX4_conkerToSend, Cond.instanceMethod yX4_conkerToSend, Cond.selects RX4 yX4_conkerToSend yX4_conkerToSend, Cond.code yX4_conkerToSend cX4_conkerToSend 4 (some .int), Cond.methodLink RL 38 yX5_bout, Cond.instanceMethod yX5_bout, Cond.selects RX5 yX5_bout yX5_bout, Cond.code yX5_bout cX5_bout 5 (some .int), Cond.methodLink RX5 70 yX1_keep, Cond.instanceMethod yX1_keep, Cond.selects RX1 yX1_keep yX1_keep, Cond.initialized RX1, Cond.code yX1_keep cX1_keep 2 none, Cond.fieldLink RX1 17 "ConkerHeirs$History" "held" "I", Cond.fieldLink RX1 11 "ConkerHeirs$History" "states" "[LConkerHeirs$State;", Cond.methodLink RX1 22 yX1_dropOldest, Cond.instanceMethod yX1_dropOldest]
def wsL_fights_r9 : List Cond := [Cond.selects RX1 yX1_dropOldest yX1_dropOldest, Cond.code yX1_dropOldest cX1_dropOldest 3 none, Cond.methodLink RX1 25 yX4_copyFrom, Cond.methodLink RL 67 yL_conkers, Cond.static yL_conkers, Cond.code yL_conkers cL_conkers 13 (some .boolean), Cond.arrayClass .int, Cond.methodLink RL 54 yX5_line, Cond.instanceMethod yX5_line, Cond.selects RX5 yX5_line yX5_line, Cond.code yX5_line cX5_line 2 (some .int), Cond.methodLink RX5 200 yX4_lengthOfLine, Cond.instanceMethod yX4_lengthOfLine, Cond.selects RX4 yX4_lengthOfLine yX4_lengthOfLine, Cond.code yX4_lengthOfLine cX4_lengthOfLine 4 (some .int), Cond.methodLink RX4 130 yX4_isInLineOf, Cond.instanceMethod yX4_isInLineOf, Cond.selects RX4 yX4_isInLineOf yX4_isInLineOf, Cond.code yX4_isInLineOf cX4_isInLineOf 5 (some .boolean), Cond.methodLink RL 85 yX5_undo, Cond.instanceMethod yX5_undo, Cond.selects RX5 yX5_undo yX5_undo, Cond.code yX5_undo cX5_undo 1 (some .int), Cond.methodLink RX5 160 yX1_bringBack]
def wsL_fights_r10 : List Cond := [Cond.instanceMethod yX1_bringBack, Cond.selects RX1 yX1_bringBack yX1_bringBack, Cond.code yX1_bringBack cX1_bringBack 2 (some .int)]
def wsL_fights : List Cond := .code yL_fights cL_fights 11 (some .boolean) :: ((wsL_fights_r1 ++ (wsL_fights_r2 ++ (wsL_fights_r3 ++ (wsL_fights_r4 ++ (wsL_fights_r5 ++ (wsL_fights_r6 ++ (wsL_fights_r7 ++ (wsL_fights_r8 ++ (wsL_fights_r9 ++ wsL_fights_r10))))))))) ++ wsX50 ++ wsX40 ++ wsX00 ++ wsX10 ++ wsX30)
def wsL_rounds_r1 : List Cond := [Cond.methodLink RL 60 yX5_player, Cond.instanceMethod yX5_player, Cond.selects RX5 yX5_player yX5_player, Cond.initialized RX5, Cond.code yX5_player cX5_player 3 (some .int), Cond.fieldLink RX5 10 "ConkerHeirs" "now" "LConkerHeirs$State;", Cond.fieldLink RX5 62 "ConkerHeirs$State" "strings" "[I", Cond.fieldLink RX5 188 "ConkerHeirs$State" "shame" "[I", Cond.methodLink RX5 54 yX5_isPlayer, Cond.static yX5_isPlayer, Cond.code yX5_isPlayer cX5_isPlayer 1 (some .boolean), Cond.methodLink RX5 58 yX5_isWithin, Cond.static yX5_isWithin, Cond.code yX5_isWithin cX5_isWithin 3 (some .boolean), Cond.methodLink RX5 167 yX4_conkersBeing, Cond.instanceMethod yX4_conkersBeing, Cond.selects RX4 yX4_conkersBeing yX4_conkersBeing, Cond.initialized RX4, Cond.code yX4_conkersBeing cX4_conkersBeing 5 (some .int), Cond.fieldLink RX4 42 "ConkerHeirs$State" "conkers" "I", Cond.fieldLink RX4 36 "ConkerHeirs$State" "how" "[I", Cond.methodLink RX4 121 yX4_isOf, Cond.instanceMethod yX4_isOf, Cond.selects RX4 yX4_isOf yX4_isOf]
def wsL_rounds_r2 : List Cond := [Cond.code yX4_isOf cX4_isOf 3 (some .boolean), Cond.fieldLink RX4 18 "ConkerHeirs$State" "owner" "[I", Cond.methodLink RX5 191 yX4_victoriesOf, Cond.instanceMethod yX4_victoriesOf, Cond.selects RX4 yX4_victoriesOf yX4_victoriesOf, Cond.code yX4_victoriesOf cX4_victoriesOf 4 (some .int), Cond.fieldLink RX4 30 "ConkerHeirs$State" "victories" "[I", Cond.methodLink RX5 194 yX4_conkerToSend, Cond.instanceMethod yX4_conkerToSend, Cond.selects RX4 yX4_conkerToSend yX4_conkerToSend, Cond.code yX4_conkerToSend cX4_conkerToSend 4 (some .int), Cond.methodLink RL 81 yL_print, Cond.static yL_print, Cond.initialized RL, Cond.code yL_print cL_print 4 (some .long), Cond.constantLong RL 71 (23), Cond.constantLong RL 73 (31), Cond.methodLink RL 48 yX5_count, Cond.instanceMethod yX5_count, Cond.selects RX5 yX5_count yX5_count, Cond.code yX5_count cX5_count 2 (some .int), Cond.fieldLink RX5 66 "ConkerHeirs$State" "conkers" "I", Cond.fieldLink RX5 203 "ConkerHeirs$State" "lostVictories" "I", Cond.fieldLink RX5 206 "ConkerHeirs$State" "strikes" "I"]
def wsL_rounds_r3 : List Cond := [Cond.fieldLink RX5 25 "ConkerHeirs" "history" "LConkerHeirs$History;", Cond.fieldLink RX5 218 "ConkerHeirs$History" "held" "I", Cond.fieldLink RX5 32 "ConkerHeirs" "script" "LConkerHeirs$Script;", Cond.fieldLink RX5 138 "ConkerHeirs$Script" "length" "I", Cond.methodLink RX5 209 yX4_conkersWithHeir, Cond.instanceMethod yX4_conkersWithHeir, Cond.selects RX4 yX4_conkersWithHeir yX4_conkersWithHeir, Cond.code yX4_conkersWithHeir cX4_conkersWithHeir 1 (some .int), Cond.methodLink RX4 127 yX4_conkersSmashedBy, Cond.instanceMethod yX4_conkersSmashedBy, Cond.selects RX4 yX4_conkersSmashedBy yX4_conkersSmashedBy, Cond.code yX4_conkersSmashedBy cX4_conkersSmashedBy 4 (some .int), Cond.fieldLink RX4 39 "ConkerHeirs$State" "smashedBy" "[I", Cond.methodLink RX5 212 yX4_boastsTold, Cond.instanceMethod yX4_boastsTold, Cond.selects RX4 yX4_boastsTold yX4_boastsTold, Cond.code yX4_boastsTold cX4_boastsTold 3 (some .int), Cond.fieldLink RX4 33 "ConkerHeirs$State" "boasts" "[I", Cond.methodLink RX5 215 yX4_boastsTooHigh, Cond.instanceMethod yX4_boastsTooHigh, Cond.selects RX4 yX4_boastsTooHigh yX4_boastsTooHigh, Cond.code yX4_boastsTooHigh cX4_boastsTooHigh 3 (some .int), Cond.methodLink RL 51 yX5_conker, Cond.instanceMethod yX5_conker]
def wsL_rounds_r4 : List Cond := [Cond.selects RX5 yX5_conker yX5_conker, Cond.code yX5_conker cX5_conker 3 (some .int), Cond.fieldLink RX5 107 "ConkerHeirs$State" "owner" "[I", Cond.fieldLink RX5 170 "ConkerHeirs$State" "hardness" "[I", Cond.fieldLink RX5 173 "ConkerHeirs$State" "crack" "[I", Cond.fieldLink RX5 176 "ConkerHeirs$State" "wear" "[I", Cond.fieldLink RX5 179 "ConkerHeirs$State" "victories" "[I", Cond.fieldLink RX5 104 "ConkerHeirs$State" "boasts" "[I", Cond.fieldLink RX5 101 "ConkerHeirs$State" "how" "[I", Cond.fieldLink RX5 182 "ConkerHeirs$State" "smashedBy" "[I", Cond.methodLink RX5 98 yX4_hasConker, Cond.instanceMethod yX4_hasConker, Cond.selects RX4 yX4_hasConker yX4_hasConker, Cond.code yX4_hasConker cX4_hasConker 2 (some .boolean), Cond.methodLink RX5 185 yX4_conkersSmashedBy, Cond.methodLink RL 42 yX5_round, Cond.instanceMethod yX5_round, Cond.selects RX5 yX5_round yX5_round, Cond.code yX5_round cX5_round 5 (some .int), Cond.constant RX5 124 (65535), Cond.fieldLink RX5 39 "ConkerHeirs" "draws" "LConkerHeirs$Draws;", Cond.fieldLink RX5 46 "ConkerHeirs" "row" "LConkerHeirs$Row;", Cond.fieldLink RX5 128 "ConkerHeirs$Row" "length" "I", Cond.methodLink RX5 70 yX1_keep]
def wsL_rounds_r5 : List Cond := [Cond.instanceMethod yX1_keep, Cond.selects RX1 yX1_keep yX1_keep, Cond.initialized RX1, Cond.code yX1_keep cX1_keep 2 none, Cond.fieldLink RX1 17 "ConkerHeirs$History" "held" "I", Cond.fieldLink RX1 11 "ConkerHeirs$History" "states" "[LConkerHeirs$State;", Cond.methodLink RX1 22 yX1_dropOldest, Cond.instanceMethod yX1_dropOldest, Cond.selects RX1 yX1_dropOldest yX1_dropOldest, Cond.code yX1_dropOldest cX1_dropOldest 3 none, Cond.methodLink RX1 25 yX4_copyFrom, Cond.instanceMethod yX4_copyFrom, Cond.selects RX4 yX4_copyFrom yX4_copyFrom, Cond.code yX4_copyFrom cX4_copyFrom 2 none, Cond.fieldLink RX4 9 "ConkerHeirs$State" "strings" "[I", Cond.methodLink RX4 52 arraycopyName, Cond.native arraycopyName, Cond.static arraycopyName, Cond.initialized "java/lang/System", Cond.fieldLink RX4 15 "ConkerHeirs$State" "shame" "[I", Cond.fieldLink RX4 21 "ConkerHeirs$State" "hardness" "[I", Cond.fieldLink RX4 24 "ConkerHeirs$State" "crack" "[I", Cond.fieldLink RX4 27 "ConkerHeirs$State" "wear" "[I", Cond.fieldLink RX4 46 "ConkerHeirs$State" "lostVictories" "I"]
def wsL_rounds_r6 : List Cond := [Cond.fieldLink RX4 49 "ConkerHeirs$State" "strikes" "I", Cond.methodLink RX5 116 yX0_begin, Cond.instanceMethod yX0_begin, Cond.selects RX0 yX0_begin yX0_begin, Cond.initialized RX0, Cond.code yX0_begin cX0_begin 2 none, Cond.fieldLink RX0 7 "ConkerHeirs$Draws" "x" "I", Cond.methodLink RX5 125 yX2_lineUp, Cond.instanceMethod yX2_lineUp, Cond.selects RX2 yX2_lineUp yX2_lineUp, Cond.initialized RX2, Cond.code yX2_lineUp cX2_lineUp 4 none, Cond.fieldLink RX2 15 "ConkerHeirs$Row" "length" "I", Cond.methodLink RX2 19 yX4_conkerToSend, Cond.methodLink RX2 25 yX2_insert, Cond.instanceMethod yX2_insert, Cond.selects RX2 yX2_insert yX2_insert, Cond.code yX2_insert cX2_insert 5 none, Cond.fieldLink RX2 29 "ConkerHeirs$State" "shame" "[I", Cond.fieldLink RX2 32 "ConkerHeirs$State" "owner" "[I", Cond.fieldLink RX2 9 "ConkerHeirs$Row" "conkers" "[I", Cond.methodLink RX5 131 yX0_next, Cond.instanceMethod yX0_next, Cond.selects RX0 yX0_next yX0_next]
def wsL_rounds_r7 : List Cond := [Cond.code yX0_next cX0_next 1 (some .int), Cond.constant RX0 13 (65536), Cond.methodLink RX5 135 yX2_takeOut, Cond.instanceMethod yX2_takeOut, Cond.selects RX2 yX2_takeOut yX2_takeOut, Cond.code yX2_takeOut cX2_takeOut 4 (some .int), Cond.methodLink RX5 120 yX4_fight, Cond.instanceMethod yX4_fight, Cond.selects RX4 yX4_fight yX4_fight, Cond.code yX4_fight cX4_fight 8 (some .int), Cond.methodLink RX4 86 Lib.Math.min.name, Cond.static Lib.Math.min.name, Cond.initialized "java/lang/Math", Cond.code Lib.Math.min.name Lib.Math.min.code 2 (some .int), Cond.methodLink RX4 103 Lib.Math.max.name, Cond.static Lib.Math.max.name, Cond.code Lib.Math.max.name Lib.Math.max.code 2 (some .int), Cond.methodLink RX4 71 yX4_areInPlay, Cond.instanceMethod yX4_areInPlay, Cond.selects RX4 yX4_areInPlay yX4_areInPlay, Cond.code yX4_areInPlay cX4_areInPlay 3 (some .boolean), Cond.methodLink RX4 106 yX0_swing, Cond.instanceMethod yX0_swing, Cond.selects RX0 yX0_swing yX0_swing]
def wsL_rounds_r8 : List Cond := [Cond.code yX0_swing cX0_swing 1 (some .int), Cond.methodLink RX0 14 yX0_next, Cond.methodLink RX4 112 yX4_hit, Cond.instanceMethod yX4_hit, Cond.selects RX4 yX4_hit yX4_hit, Cond.code yX4_hit cX4_hit 6 (some .int), Cond.methodLink RX4 82 yX4_quotient, Cond.static yX4_quotient, Cond.code yX4_quotient cX4_quotient 2 (some .int), Cond.methodLink RX4 91 yX4_settleSmashes, Cond.instanceMethod yX4_settleSmashes, Cond.selects RX4 yX4_settleSmashes yX4_settleSmashes, Cond.code yX4_settleSmashes cX4_settleSmashes 5 none, Cond.methodLink RX4 115 yX4_crush, Cond.instanceMethod yX4_crush, Cond.selects RX4 yX4_crush yX4_crush, Cond.code yX4_crush cX4_crush 3 (some .int), Cond.methodLink RX4 79 yX4_takeVictoriesOfSmashed, Cond.instanceMethod yX4_takeVictoriesOfSmashed, Cond.selects RX4 yX4_takeVictoriesOfSmashed yX4_takeVictoriesOfSmashed, Cond.code yX4_takeVictoriesOfSmashed cX4_takeVictoriesOfSmashed 3 (some .int), Cond.methodLink RX4 118 yX4_inherit, Cond.instanceMethod yX4_inherit, Cond.selects RX4 yX4_inherit yX4_inherit]
def wsL_rounds_r9 : List Cond := [Cond.code yX4_inherit cX4_inherit 3 none, Cond.methodLink RX4 95 yX4_fallIfWorn, Cond.instanceMethod yX4_fallIfWorn, Cond.selects RX4 yX4_fallIfWorn yX4_fallIfWorn, Cond.code yX4_fallIfWorn cX4_fallIfWorn 2 none, Cond.methodLink RX4 99 yX4_outcome, Cond.instanceMethod yX4_outcome, Cond.selects RX4 yX4_outcome yX4_outcome, Cond.code yX4_outcome cX4_outcome 4 (some .int), Cond.methodLink RL 92 yL_hangs, Cond.static yL_hangs, Cond.code yL_hangs cL_hangs 10 (some .boolean), Cond.methodLink RL 57 yX5_ranked, Cond.instanceMethod yX5_ranked, Cond.selects RX5 yX5_ranked yX5_ranked, Cond.code yX5_ranked cX5_ranked 2 (some .int), Cond.methodLink RX5 197 yX4_conkerAtRank, Cond.instanceMethod yX4_conkerAtRank, Cond.selects RX4 yX4_conkerAtRank yX4_conkerAtRank, Cond.code yX4_conkerAtRank cX4_conkerAtRank 3 (some .int), Cond.methodLink RX4 124 yX4_conkersAheadOf, Cond.instanceMethod yX4_conkersAheadOf, Cond.selects RX4 yX4_conkersAheadOf yX4_conkersAheadOf, Cond.code yX4_conkersAheadOf cX4_conkersAheadOf 6 (some .int)]
def wsL_rounds_r10 : List Cond := [Cond.methodLink RL 63 yX5_share, Cond.instanceMethod yX5_share, Cond.selects RX5 yX5_share yX5_share, Cond.code yX5_share cX5_share 3 (some .float), Cond.methodLink RL 67 yL_conkers, Cond.static yL_conkers, Cond.code yL_conkers cL_conkers 13 (some .boolean), Cond.arrayClass .int, Cond.methodLink RL 54 yX5_line, Cond.instanceMethod yX5_line, Cond.selects RX5 yX5_line yX5_line, Cond.code yX5_line cX5_line 2 (some .int), Cond.methodLink RX5 200 yX4_lengthOfLine, Cond.instanceMethod yX4_lengthOfLine, Cond.selects RX4 yX4_lengthOfLine yX4_lengthOfLine, Cond.code yX4_lengthOfLine cX4_lengthOfLine 4 (some .int), Cond.methodLink RX4 130 yX4_isInLineOf, Cond.instanceMethod yX4_isInLineOf, Cond.selects RX4 yX4_isInLineOf yX4_isInLineOf, Cond.code yX4_isInLineOf cX4_isInLineOf 5 (some .boolean), Cond.methodLink RX4 67 yX4_hasConker, Cond.methodLink RL 85 yX5_undo, Cond.instanceMethod yX5_undo, Cond.selects RX5 yX5_undo yX5_undo]
def wsL_rounds_r11 : List Cond := [Cond.code yX5_undo cX5_undo 1 (some .int), Cond.methodLink RX5 160 yX1_bringBack, Cond.instanceMethod yX1_bringBack, Cond.selects RX1 yX1_bringBack yX1_bringBack, Cond.code yX1_bringBack cX1_bringBack 2 (some .int)]
def wsL_rounds : List Cond := .code yL_rounds cL_rounds 8 (some .boolean) :: ((wsL_rounds_r1 ++ (wsL_rounds_r2 ++ (wsL_rounds_r3 ++ (wsL_rounds_r4 ++ (wsL_rounds_r5 ++ (wsL_rounds_r6 ++ (wsL_rounds_r7 ++ (wsL_rounds_r8 ++ (wsL_rounds_r9 ++ (wsL_rounds_r10 ++ wsL_rounds_r11)))))))))) ++ wsX50 ++ wsX40 ++ wsX10 ++ wsX30 ++ wsX20 ++ wsX00)
def wsL_law_r1 : List Cond := [Cond.classLink RL 17 RX5, Cond.instantiable RX5 8, Cond.initialized RX5, Cond.constant RL 37 (65536), Cond.methodLink RL 95 yX5_init, Cond.instanceMethod yX5_init, Cond.code yX5_init cX5_init 1 none, Cond.methodLink RX5 1 objectInit, Cond.instanceMethod objectInit, Cond.code objectInit ⟨#[0xb1]⟩ 1 none, Cond.classLink RX5 7 RX4, Cond.instantiable RX4 13, Cond.initialized RX4, Cond.fieldLink RX5 10 "ConkerHeirs" "now" "LConkerHeirs$State;", Cond.fieldLink RX5 16 "ConkerHeirs" "snapshot" "LConkerHeirs$State;", Cond.fieldLink RX5 19 "ConkerHeirs" "trial" "LConkerHeirs$State;", Cond.classLink RX5 22 RX1, Cond.instantiable RX1 2, Cond.initialized RX1, Cond.fieldLink RX5 25 "ConkerHeirs" "history" "LConkerHeirs$History;", Cond.classLink RX5 29 RX3, Cond.instantiable RX3 7, Cond.initialized RX3, Cond.fieldLink RX5 32 "ConkerHeirs" "script" "LConkerHeirs$Script;"]
def wsL_law_r2 : List Cond := [Cond.classLink RX5 36 RX0, Cond.instantiable RX0 1, Cond.initialized RX0, Cond.fieldLink RX5 39 "ConkerHeirs" "draws" "LConkerHeirs$Draws;", Cond.classLink RX5 43 RX2, Cond.instantiable RX2 2, Cond.initialized RX2, Cond.fieldLink RX5 46 "ConkerHeirs" "row" "LConkerHeirs$Row;", Cond.fieldLink RX5 50 "ConkerHeirs" "hasSnapshot" "Z", Cond.methodLink RX5 9 yX4_init, Cond.instanceMethod yX4_init, Cond.code yX4_init cX4_init 2 none, Cond.methodLink RX4 3 objectInit, Cond.arrayClass .int, Cond.fieldLink RX4 9 "ConkerHeirs$State" "strings" "[I", Cond.fieldLink RX4 15 "ConkerHeirs$State" "shame" "[I", Cond.fieldLink RX4 18 "ConkerHeirs$State" "owner" "[I", Cond.fieldLink RX4 21 "ConkerHeirs$State" "hardness" "[I", Cond.fieldLink RX4 24 "ConkerHeirs$State" "crack" "[I", Cond.fieldLink RX4 27 "ConkerHeirs$State" "wear" "[I", Cond.fieldLink RX4 30 "ConkerHeirs$State" "victories" "[I", Cond.fieldLink RX4 33 "ConkerHeirs$State" "boasts" "[I", Cond.fieldLink RX4 36 "ConkerHeirs$State" "how" "[I", Cond.fieldLink RX4 39 "ConkerHeirs$State" "smashedBy" "[I"]
def wsL_law_r3 : List Cond := [Cond.fieldLink RX4 42 "ConkerHeirs$State" "conkers" "I", Cond.fieldLink RX4 46 "ConkerHeirs$State" "lostVictories" "I", Cond.fieldLink RX4 49 "ConkerHeirs$State" "strikes" "I", Cond.methodLink RX5 24 yX1_init, Cond.instanceMethod yX1_init, Cond.code yX1_init cX1_init 2 none, Cond.methodLink RX1 3 objectInit, Cond.classLink RX1 9 RX4, Cond.fieldLink RX1 11 "ConkerHeirs$History" "states" "[LConkerHeirs$State;", Cond.fieldLink RX1 17 "ConkerHeirs$History" "held" "I", Cond.methodLink RX1 21 yX4_init, Cond.instanceMethod yX3_init, Cond.code yX3_init cX3_init 1 none, Cond.methodLink RX3 3 objectInit, Cond.arrayClass .char, Cond.fieldLink RX3 9 "ConkerHeirs$Script" "signs" "[C", Cond.fieldLink RX3 15 "ConkerHeirs$Script" "length" "I", Cond.fieldLink RX3 19 "ConkerHeirs$Script" "at" "I", Cond.fieldLink RX3 22 "ConkerHeirs$Script" "kind" "C", Cond.fieldLink RX3 26 "ConkerHeirs$Script" "first" "I", Cond.fieldLink RX3 29 "ConkerHeirs$Script" "second" "I", Cond.fieldLink RX3 32 "ConkerHeirs$Script" "swing" "I", Cond.instanceMethod yX0_init, Cond.code yX0_init cX0_init 1 none]
def wsL_law_r4 : List Cond := [Cond.methodLink RX0 1 objectInit, Cond.fieldLink RX0 7 "ConkerHeirs$Draws" "x" "I", Cond.instanceMethod yX2_init, Cond.code yX2_init cX2_init 1 none, Cond.methodLink RX2 3 objectInit, Cond.fieldLink RX2 9 "ConkerHeirs$Row" "conkers" "[I", Cond.fieldLink RX2 15 "ConkerHeirs$Row" "length" "I", Cond.methodLink RL 92 yL_hangs, Cond.static yL_hangs, Cond.initialized RL, Cond.code yL_hangs cL_hangs 10 (some .boolean), Cond.methodLink RL 48 yX5_count, Cond.instanceMethod yX5_count, Cond.selects RX5 yX5_count yX5_count, Cond.code yX5_count cX5_count 2 (some .int), Cond.fieldLink RX5 66 "ConkerHeirs$State" "conkers" "I", Cond.fieldLink RX5 203 "ConkerHeirs$State" "lostVictories" "I", Cond.fieldLink RX5 206 "ConkerHeirs$State" "strikes" "I", Cond.fieldLink RX5 218 "ConkerHeirs$History" "held" "I", Cond.fieldLink RX5 138 "ConkerHeirs$Script" "length" "I", Cond.methodLink RX5 167 yX4_conkersBeing, Cond.instanceMethod yX4_conkersBeing, Cond.selects RX4 yX4_conkersBeing yX4_conkersBeing, Cond.code yX4_conkersBeing cX4_conkersBeing 5 (some .int)]
def wsL_law_r5 : List Cond := [Cond.methodLink RX4 121 yX4_isOf, Cond.instanceMethod yX4_isOf, Cond.selects RX4 yX4_isOf yX4_isOf, Cond.code yX4_isOf cX4_isOf 3 (some .boolean), Cond.methodLink RX5 191 yX4_victoriesOf, Cond.instanceMethod yX4_victoriesOf, Cond.selects RX4 yX4_victoriesOf yX4_victoriesOf, Cond.code yX4_victoriesOf cX4_victoriesOf 4 (some .int), Cond.methodLink RX5 209 yX4_conkersWithHeir, Cond.instanceMethod yX4_conkersWithHeir, Cond.selects RX4 yX4_conkersWithHeir yX4_conkersWithHeir, Cond.code yX4_conkersWithHeir cX4_conkersWithHeir 1 (some .int), Cond.methodLink RX4 127 yX4_conkersSmashedBy, Cond.instanceMethod yX4_conkersSmashedBy, Cond.selects RX4 yX4_conkersSmashedBy yX4_conkersSmashedBy, Cond.code yX4_conkersSmashedBy cX4_conkersSmashedBy 4 (some .int), Cond.methodLink RX5 212 yX4_boastsTold, Cond.instanceMethod yX4_boastsTold, Cond.selects RX4 yX4_boastsTold yX4_boastsTold, Cond.code yX4_boastsTold cX4_boastsTold 3 (some .int), Cond.methodLink RX5 215 yX4_boastsTooHigh, Cond.instanceMethod yX4_boastsTooHigh, Cond.selects RX4 yX4_boastsTooHigh yX4_boastsTooHigh, Cond.code yX4_boastsTooHigh cX4_boastsTooHigh 3 (some .int)]
def wsL_law_r6 : List Cond := [Cond.methodLink RL 57 yX5_ranked, Cond.instanceMethod yX5_ranked, Cond.selects RX5 yX5_ranked yX5_ranked, Cond.code yX5_ranked cX5_ranked 2 (some .int), Cond.methodLink RX5 197 yX4_conkerAtRank, Cond.instanceMethod yX4_conkerAtRank, Cond.selects RX4 yX4_conkerAtRank yX4_conkerAtRank, Cond.code yX4_conkerAtRank cX4_conkerAtRank 3 (some .int), Cond.methodLink RX4 124 yX4_conkersAheadOf, Cond.instanceMethod yX4_conkersAheadOf, Cond.selects RX4 yX4_conkersAheadOf yX4_conkersAheadOf, Cond.code yX4_conkersAheadOf cX4_conkersAheadOf 6 (some .int), Cond.methodLink RL 51 yX5_conker, Cond.instanceMethod yX5_conker, Cond.selects RX5 yX5_conker yX5_conker, Cond.code yX5_conker cX5_conker 3 (some .int), Cond.fieldLink RX5 107 "ConkerHeirs$State" "owner" "[I", Cond.fieldLink RX5 170 "ConkerHeirs$State" "hardness" "[I", Cond.fieldLink RX5 173 "ConkerHeirs$State" "crack" "[I", Cond.fieldLink RX5 176 "ConkerHeirs$State" "wear" "[I", Cond.fieldLink RX5 179 "ConkerHeirs$State" "victories" "[I", Cond.fieldLink RX5 104 "ConkerHeirs$State" "boasts" "[I", Cond.fieldLink RX5 101 "ConkerHeirs$State" "how" "[I", Cond.fieldLink RX5 182 "ConkerHeirs$State" "smashedBy" "[I"]
def wsL_law_r7 : List Cond := [Cond.methodLink RX5 98 yX4_hasConker, Cond.instanceMethod yX4_hasConker, Cond.selects RX4 yX4_hasConker yX4_hasConker, Cond.code yX4_hasConker cX4_hasConker 2 (some .boolean), Cond.static yX5_isWithin, Cond.code yX5_isWithin cX5_isWithin 3 (some .boolean), Cond.methodLink RX5 185 yX4_conkersSmashedBy, Cond.methodLink RL 60 yX5_player, Cond.instanceMethod yX5_player, Cond.selects RX5 yX5_player yX5_player, Cond.code yX5_player cX5_player 3 (some .int), Cond.fieldLink RX5 62 "ConkerHeirs$State" "strings" "[I", Cond.fieldLink RX5 188 "ConkerHeirs$State" "shame" "[I", Cond.methodLink RX5 54 yX5_isPlayer, Cond.static yX5_isPlayer, Cond.code yX5_isPlayer cX5_isPlayer 1 (some .boolean), Cond.methodLink RX5 58 yX5_isWithin, Cond.methodLink RX5 194 yX4_conkerToSend, Cond.instanceMethod yX4_conkerToSend, Cond.selects RX4 yX4_conkerToSend yX4_conkerToSend, Cond.code yX4_conkerToSend cX4_conkerToSend 4 (some .int), Cond.methodLink RL 63 yX5_share, Cond.instanceMethod yX5_share, Cond.selects RX5 yX5_share yX5_share]
def wsL_law_r8 : List Cond := [Cond.code yX5_share cX5_share 3 (some .float), Cond.methodLink RL 67 yL_conkers, Cond.static yL_conkers, Cond.code yL_conkers cL_conkers 13 (some .boolean), Cond.methodLink RL 54 yX5_line, Cond.instanceMethod yX5_line, Cond.selects RX5 yX5_line yX5_line, Cond.code yX5_line cX5_line 2 (some .int), Cond.methodLink RX5 200 yX4_lengthOfLine, Cond.instanceMethod yX4_lengthOfLine, Cond.selects RX4 yX4_lengthOfLine yX4_lengthOfLine, Cond.code yX4_lengthOfLine cX4_lengthOfLine 4 (some .int), Cond.methodLink RX4 130 yX4_isInLineOf, Cond.instanceMethod yX4_isInLineOf, Cond.selects RX4 yX4_isInLineOf yX4_isInLineOf, Cond.code yX4_isInLineOf cX4_isInLineOf 5 (some .boolean), Cond.methodLink RX4 67 yX4_hasConker, Cond.methodLink RL 96 yL_rounds, Cond.static yL_rounds, Cond.code yL_rounds cL_rounds 8 (some .boolean), Cond.methodLink RL 81 yL_print, Cond.static yL_print, Cond.code yL_print cL_print 4 (some .long), Cond.constantLong RL 71 (23)]
def wsL_law_r9 : List Cond := [Cond.constantLong RL 73 (31), Cond.methodLink RL 42 yX5_round, Cond.instanceMethod yX5_round, Cond.selects RX5 yX5_round yX5_round, Cond.code yX5_round cX5_round 5 (some .int), Cond.constant RX5 124 (65535), Cond.fieldLink RX5 128 "ConkerHeirs$Row" "length" "I", Cond.methodLink RX5 70 yX1_keep, Cond.instanceMethod yX1_keep, Cond.selects RX1 yX1_keep yX1_keep, Cond.code yX1_keep cX1_keep 2 none, Cond.methodLink RX1 22 yX1_dropOldest, Cond.instanceMethod yX1_dropOldest, Cond.selects RX1 yX1_dropOldest yX1_dropOldest, Cond.code yX1_dropOldest cX1_dropOldest 3 none, Cond.methodLink RX1 25 yX4_copyFrom, Cond.instanceMethod yX4_copyFrom, Cond.selects RX4 yX4_copyFrom yX4_copyFrom, Cond.code yX4_copyFrom cX4_copyFrom 2 none, Cond.methodLink RX4 52 arraycopyName, Cond.native arraycopyName, Cond.static arraycopyName, Cond.initialized "java/lang/System", Cond.methodLink RX5 116 yX0_begin]
def wsL_law_r10 : List Cond := [Cond.instanceMethod yX0_begin, Cond.selects RX0 yX0_begin yX0_begin, Cond.code yX0_begin cX0_begin 2 none, Cond.methodLink RX5 125 yX2_lineUp, Cond.instanceMethod yX2_lineUp, Cond.selects RX2 yX2_lineUp yX2_lineUp, Cond.code yX2_lineUp cX2_lineUp 4 none, Cond.methodLink RX2 19 yX4_conkerToSend, Cond.methodLink RX2 25 yX2_insert, Cond.instanceMethod yX2_insert, Cond.selects RX2 yX2_insert yX2_insert, Cond.code yX2_insert cX2_insert 5 none, Cond.fieldLink RX2 29 "ConkerHeirs$State" "shame" "[I", Cond.fieldLink RX2 32 "ConkerHeirs$State" "owner" "[I", Cond.methodLink RX5 131 yX0_next, Cond.instanceMethod yX0_next, Cond.selects RX0 yX0_next yX0_next, Cond.code yX0_next cX0_next 1 (some .int), Cond.constant RX0 13 (65536), Cond.methodLink RX5 135 yX2_takeOut, Cond.instanceMethod yX2_takeOut, Cond.selects RX2 yX2_takeOut yX2_takeOut, Cond.code yX2_takeOut cX2_takeOut 4 (some .int), Cond.methodLink RX5 120 yX4_fight]
def wsL_law_r11 : List Cond := [Cond.instanceMethod yX4_fight, Cond.selects RX4 yX4_fight yX4_fight, Cond.code yX4_fight cX4_fight 8 (some .int), Cond.methodLink RX4 86 Lib.Math.min.name, Cond.static Lib.Math.min.name, Cond.initialized "java/lang/Math", Cond.code Lib.Math.min.name Lib.Math.min.code 2 (some .int), Cond.methodLink RX4 103 Lib.Math.max.name, Cond.static Lib.Math.max.name, Cond.code Lib.Math.max.name Lib.Math.max.code 2 (some .int), Cond.methodLink RX4 71 yX4_areInPlay, Cond.instanceMethod yX4_areInPlay, Cond.selects RX4 yX4_areInPlay yX4_areInPlay, Cond.code yX4_areInPlay cX4_areInPlay 3 (some .boolean), Cond.methodLink RX4 106 yX0_swing, Cond.instanceMethod yX0_swing, Cond.selects RX0 yX0_swing yX0_swing, Cond.code yX0_swing cX0_swing 1 (some .int), Cond.methodLink RX0 14 yX0_next, Cond.methodLink RX4 112 yX4_hit, Cond.instanceMethod yX4_hit, Cond.selects RX4 yX4_hit yX4_hit, Cond.code yX4_hit cX4_hit 6 (some .int), Cond.methodLink RX4 82 yX4_quotient]
def wsL_law_r12 : List Cond := [Cond.static yX4_quotient, Cond.code yX4_quotient cX4_quotient 2 (some .int), Cond.methodLink RX4 91 yX4_settleSmashes, Cond.instanceMethod yX4_settleSmashes, Cond.selects RX4 yX4_settleSmashes yX4_settleSmashes, Cond.code yX4_settleSmashes cX4_settleSmashes 5 none, Cond.methodLink RX4 115 yX4_crush, Cond.instanceMethod yX4_crush, Cond.selects RX4 yX4_crush yX4_crush, Cond.code yX4_crush cX4_crush 3 (some .int), Cond.methodLink RX4 79 yX4_takeVictoriesOfSmashed, Cond.instanceMethod yX4_takeVictoriesOfSmashed, Cond.selects RX4 yX4_takeVictoriesOfSmashed yX4_takeVictoriesOfSmashed, Cond.code yX4_takeVictoriesOfSmashed cX4_takeVictoriesOfSmashed 3 (some .int), Cond.methodLink RX4 118 yX4_inherit, Cond.instanceMethod yX4_inherit, Cond.selects RX4 yX4_inherit yX4_inherit, Cond.code yX4_inherit cX4_inherit 3 none, Cond.methodLink RX4 95 yX4_fallIfWorn, Cond.instanceMethod yX4_fallIfWorn, Cond.selects RX4 yX4_fallIfWorn yX4_fallIfWorn, Cond.code yX4_fallIfWorn cX4_fallIfWorn 2 none, Cond.methodLink RX4 99 yX4_outcome, Cond.instanceMethod yX4_outcome]
def wsL_law_r13 : List Cond := [Cond.selects RX4 yX4_outcome yX4_outcome, Cond.code yX4_outcome cX4_outcome 4 (some .int), Cond.methodLink RL 85 yX5_undo, Cond.instanceMethod yX5_undo, Cond.selects RX5 yX5_undo yX5_undo, Cond.code yX5_undo cX5_undo 1 (some .int), Cond.methodLink RX5 160 yX1_bringBack, Cond.instanceMethod yX1_bringBack, Cond.selects RX1 yX1_bringBack yX1_bringBack, Cond.code yX1_bringBack cX1_bringBack 2 (some .int), Cond.methodLink RL 100 yL_cell, Cond.static yL_cell, Cond.code yL_cell cL_cell 2 (some .int), Cond.constant RL 7 (1063091093), Cond.constant RL 8 (473848443), Cond.methodLink RL 10 yL_low, Cond.static yL_low, Cond.code yL_low cL_low 2 (some .int), Cond.constant RL 9 (2147483647), Cond.methodLink RL 16 yX5_thread, Cond.instanceMethod yX5_thread, Cond.selects RX5 yX5_thread yX5_thread, Cond.code yX5_thread cX5_thread 3 (some .int), Cond.methodLink RX5 74 yX4_addConker]
def wsL_law_r14 : List Cond := [Cond.instanceMethod yX4_addConker, Cond.selects RX4 yX4_addConker yX4_addConker, Cond.code yX4_addConker cX4_addConker 4 (some .int), Cond.methodLink RL 104 yL_act, Cond.static yL_act, Cond.code yL_act cL_act 5 (some .int), Cond.methodLink RL 21 yX5_give, Cond.instanceMethod yX5_give, Cond.selects RX5 yX5_give yX5_give, Cond.code yX5_give cX5_give 3 (some .int), Cond.methodLink RL 24 yX5_boast, Cond.instanceMethod yX5_boast, Cond.selects RX5 yX5_boast yX5_boast, Cond.code yX5_boast cX5_boast 4 (some .int), Cond.methodLink RL 27 yX5_doubt, Cond.instanceMethod yX5_doubt, Cond.selects RX5 yX5_doubt yX5_doubt, Cond.code yX5_doubt cX5_doubt 3 (some .int), Cond.methodLink RX5 110 yX4_settleBoast, Cond.instanceMethod yX4_settleBoast, Cond.selects RX4 yX4_settleBoast yX4_settleBoast, Cond.code yX4_settleBoast cX4_settleBoast 4 (some .int), Cond.methodLink RL 30 yX5_mend, Cond.instanceMethod yX5_mend]
def wsL_law_r15 : List Cond := [Cond.selects RX5 yX5_mend yX5_mend, Cond.code yX5_mend cX5_mend 3 (some .int), Cond.methodLink RX5 85 yX4_mendError, Cond.instanceMethod yX4_mendError, Cond.selects RX4 yX4_mendError yX4_mendError, Cond.code yX4_mendError cX4_mendError 3 (some .int), Cond.methodLink RX4 75 yX4_fallenError, Cond.instanceMethod yX4_fallenError, Cond.selects RX4 yX4_fallenError yX4_fallenError, Cond.code yX4_fallenError cX4_fallenError 2 (some .int), Cond.methodLink RX5 89 yX4_threadAgain, Cond.instanceMethod yX4_threadAgain, Cond.selects RX4 yX4_threadAgain yX4_threadAgain, Cond.code yX4_threadAgain cX4_threadAgain 3 (some .int), Cond.methodLink RL 34 yX5_stamp, Cond.instanceMethod yX5_stamp, Cond.selects RX5 yX5_stamp yX5_stamp, Cond.code yX5_stamp cX5_stamp 3 (some .int), Cond.methodLink RX5 92 yX4_fallenError, Cond.methodLink RX5 95 yX4_crush, Cond.methodLink RL 38 yX5_bout, Cond.instanceMethod yX5_bout, Cond.selects RX5 yX5_bout yX5_bout, Cond.code yX5_bout cX5_bout 5 (some .int)]
def wsL_law_r16 : List Cond := [Cond.methodLink RX5 113 yX4_boutError, Cond.instanceMethod yX4_boutError, Cond.selects RX4 yX4_boutError yX4_boutError, Cond.code yX4_boutError cX4_boutError 4 (some .int), Cond.constant RX4 66 (65535), Cond.methodLink RX4 62 yX4_pairError, Cond.instanceMethod yX4_pairError, Cond.selects RX4 yX4_pairError yX4_pairError, Cond.code yX4_pairError cX4_pairError 4 (some .int), Cond.methodLink RL 45 yX5_strike, Cond.instanceMethod yX5_strike, Cond.selects RX5 yX5_strike yX5_strike, Cond.code yX5_strike cX5_strike 5 (some .int), Cond.methodLink RX5 78 yX4_strikeError, Cond.instanceMethod yX4_strikeError, Cond.selects RX4 yX4_strikeError yX4_strikeError, Cond.code yX4_strikeError cX4_strikeError 4 (some .int), Cond.methodLink RX5 82 yX4_hit, Cond.methodLink RL 108 yL_strikes, Cond.static yL_strikes, Cond.code yL_strikes cL_strikes 12 (some .boolean), Cond.methodLink RL 75 yX5_ifStruck, Cond.instanceMethod yX5_ifStruck, Cond.selects RX5 yX5_ifStruck yX5_ifStruck]
def wsL_law_r17 : List Cond := [Cond.code yX5_ifStruck cX5_ifStruck 5 (some .int), Cond.methodLink RX5 221 yX5_tryHit, Cond.instanceMethod yX5_tryHit, Cond.selects RX5 yX5_tryHit yX5_tryHit, Cond.code yX5_tryHit cX5_tryHit 4 (some .int), Cond.methodLink RX5 164 yX4_copyFrom, Cond.methodLink RL 78 yX5_leastSwing, Cond.instanceMethod yX5_leastSwing, Cond.selects RX5 yX5_leastSwing yX5_leastSwing, Cond.code yX5_leastSwing cX5_leastSwing 6 (some .int), Cond.methodLink RL 112 yL_fights, Cond.static yL_fights, Cond.code yL_fights cL_fights 11 (some .boolean), Cond.methodLink RL 89 yX5_winner, Cond.instanceMethod yX5_winner, Cond.selects RX5 yX5_winner yX5_winner, Cond.code yX5_winner cX5_winner 7 (some .int)]
def wsL_law : List Cond := (wsL_law_r1 ++ (wsL_law_r2 ++ (wsL_law_r3 ++ (wsL_law_r4 ++ (wsL_law_r5 ++ (wsL_law_r6 ++ (wsL_law_r7 ++ (wsL_law_r8 ++ (wsL_law_r9 ++ (wsL_law_r10 ++ (wsL_law_r11 ++ (wsL_law_r12 ++ (wsL_law_r13 ++ (wsL_law_r14 ++ (wsL_law_r15 ++ (wsL_law_r16 ++ wsL_law_r17)))))))))))))))) ++ wsX50 ++ wsX40 ++ wsX10 ++ wsX30 ++ wsX00 ++ wsX20 ++ ([] : List Cond)
theorem inlX0 : ∀ w ∈ wsX00, w ∈ wsL_law := fun _ h => List.mem_append_left _ (List.mem_append_left _ (List.mem_append_right _ h))
theorem inlX1 : ∀ w ∈ wsX10, w ∈ wsL_law := fun _ h => List.mem_append_left _ (List.mem_append_left _ (List.mem_append_left _ (List.mem_append_left _ (List.mem_append_right _ h))))
theorem inlX2 : ∀ w ∈ wsX20, w ∈ wsL_law := fun _ h => List.mem_append_left _ (List.mem_append_right _ h)
theorem inlX3 : ∀ w ∈ wsX30, w ∈ wsL_law := fun _ h => List.mem_append_left _ (List.mem_append_left _ (List.mem_append_left _ (List.mem_append_right _ h)))
theorem inlX4 : ∀ w ∈ wsX40, w ∈ wsL_law := fun _ h => List.mem_append_left _ (List.mem_append_left _ (List.mem_append_left _ (List.mem_append_left _ (List.mem_append_left _ (List.mem_append_right _ h)))))
theorem inlX5 : ∀ w ∈ wsX50, w ∈ wsL_law := fun _ h => List.mem_append_left _ (List.mem_append_left _ (List.mem_append_left _ (List.mem_append_left _ (List.mem_append_left _ (List.mem_append_left _ (List.mem_append_right _ h))))))
theorem inX6 : ∀ w ∈ wsX60, w ∈ lw_tbl := by decide +kernel
theorem inJ9 : ∀ w ∈ wsJ90, w ∈ lw_tbl := by decide +kernel
theorem inJ10 : ∀ w ∈ wsJ100, w ∈ lw_tbl := by decide +kernel
theorem dX0_init_0 : decode cX0_init 0 = .ok (.aload_n 0, 1) := by decide +kernel
theorem dX0_init_1 : decode cX0_init 1 = .ok (.invokespecial 1, 3) := by decide +kernel
theorem dX0_init_4 : decode cX0_init 4 = .ok (.aload_n 0, 1) := by decide +kernel
theorem dX0_init_5 : decode cX0_init 5 = .ok (.iconst 0, 1) := by decide +kernel
theorem dX0_init_6 : decode cX0_init 6 = .ok (.putfield 7, 3) := by decide +kernel
theorem dX0_init_9 : decode cX0_init 9 = .ok (.return_, 1) := by decide +kernel
theorem dX0_begin_0 : decode cX0_begin 0 = .ok (.aload_n 0, 1) := by decide +kernel
theorem dX0_begin_1 : decode cX0_begin 1 = .ok (.iload_n 1, 1) := by decide +kernel
theorem dX0_begin_2 : decode cX0_begin 2 = .ok (.putfield 7, 3) := by decide +kernel
theorem dX0_begin_5 : decode cX0_begin 5 = .ok (.return_, 1) := by decide +kernel
theorem dX0_next_0 : decode cX0_next 0 = .ok (.aload_n 0, 1) := by decide +kernel
theorem dX0_next_1 : decode cX0_next 1 = .ok (.sipush 25173, 3) := by decide +kernel
theorem dX0_next_4 : decode cX0_next 4 = .ok (.aload_n 0, 1) := by decide +kernel
theorem dX0_next_5 : decode cX0_next 5 = .ok (.getfield 7, 3) := by decide +kernel
theorem dX0_next_8 : decode cX0_next 8 = .ok (.imul, 1) := by decide +kernel
theorem dX0_next_9 : decode cX0_next 9 = .ok (.sipush 13849, 3) := by decide +kernel
theorem dX0_next_12 : decode cX0_next 12 = .ok (.iadd, 1) := by decide +kernel
theorem dX0_next_13 : decode cX0_next 13 = .ok (.ldc 13, 2) := by decide +kernel
theorem dX0_next_15 : decode cX0_next 15 = .ok (.irem, 1) := by decide +kernel
theorem dX0_next_16 : decode cX0_next 16 = .ok (.putfield 7, 3) := by decide +kernel
theorem dX0_next_19 : decode cX0_next 19 = .ok (.aload_n 0, 1) := by decide +kernel
theorem dX0_next_20 : decode cX0_next 20 = .ok (.getfield 7, 3) := by decide +kernel
theorem dX0_next_23 : decode cX0_next 23 = .ok (.ireturn, 1) := by decide +kernel
set_option maxRecDepth 20000 in
theorem ggX0_swing_X0_next : GoodIn wsX0_swing wsX0_next := goodIn_r _ [5, 6, 7, 8] (by decide +kernel) (by decide +kernel)
set_option maxRecDepth 20000 in
theorem gX0_swing_X0_next : GoodIn wsX0_swing (wsV RX0 14 RX0 yX0_next wsX0_next) := goodIn_app (goodIn_of _ (by decide +kernel)) ggX0_swing_X0_next
theorem dX0_swing_0 : decode cX0_swing 0 = .ok (.iconst 1, 1) := by decide +kernel
theorem dX0_swing_1 : decode cX0_swing 1 = .ok (.aload_n 0, 1) := by decide +kernel
theorem dX0_swing_2 : decode cX0_swing 2 = .ok (.invokevirtual 14, 3) := by decide +kernel
theorem dX0_swing_5 : decode cX0_swing 5 = .ok (.sipush 7282, 3) := by decide +kernel
theorem dX0_swing_8 : decode cX0_swing 8 = .ok (.idiv, 1) := by decide +kernel
theorem dX0_swing_9 : decode cX0_swing 9 = .ok (.iadd, 1) := by decide +kernel
theorem dX0_swing_10 : decode cX0_swing 10 = .ok (.ireturn, 1) := by decide +kernel
set_option maxRecDepth 20000 in
theorem ggX1_init_X4_init : GoodIn wsX1_init wsX4_init := goodIn_r _ [11, 12, 2, 3, 13, 14, 15, 16, 17, 18, 19, 20, 21, 22, 23, 24, 25, 26, 29, 30, 31, 32, 33, 34, 35, 36, 37, 38, 39, 40, 41] (by decide +kernel) (by decide +kernel)
set_option maxRecDepth 20000 in
theorem gX1_init_X4_init : GoodIn wsX1_init (wsX4_init) := ggX1_init_X4_init
theorem dX1_init_0 : decode cX1_init 0 = .ok (.aload_n 0, 1) := by decide +kernel
theorem dX1_init_1 : decode cX1_init 1 = .ok (.invokespecial 3, 3) := by decide +kernel
theorem dX1_init_4 : decode cX1_init 4 = .ok (.aload_n 0, 1) := by decide +kernel
theorem dX1_init_5 : decode cX1_init 5 = .ok (.iconst 5, 1) := by decide +kernel
theorem dX1_init_6 : decode cX1_init 6 = .ok (.anewarray 9, 3) := by decide +kernel
theorem dX1_init_9 : decode cX1_init 9 = .ok (.putfield 11, 3) := by decide +kernel
theorem dX1_init_12 : decode cX1_init 12 = .ok (.aload_n 0, 1) := by decide +kernel
theorem dX1_init_13 : decode cX1_init 13 = .ok (.iconst 0, 1) := by decide +kernel
theorem dX1_init_14 : decode cX1_init 14 = .ok (.putfield 17, 3) := by decide +kernel
theorem dX1_init_17 : decode cX1_init 17 = .ok (.iconst 0, 1) := by decide +kernel
theorem dX1_init_18 : decode cX1_init 18 = .ok (.istore_n 1, 1) := by decide +kernel
theorem dX1_init_19 : decode cX1_init 19 = .ok (.iload_n 1, 1) := by decide +kernel
theorem dX1_init_20 : decode cX1_init 20 = .ok (.iconst 5, 1) := by decide +kernel
theorem dX1_init_21 : decode cX1_init 21 = .ok (.if_icmp .ge 22, 3) := by decide +kernel
theorem dX1_init_24 : decode cX1_init 24 = .ok (.aload_n 0, 1) := by decide +kernel
theorem dX1_init_25 : decode cX1_init 25 = .ok (.getfield 11, 3) := by decide +kernel
theorem dX1_init_28 : decode cX1_init 28 = .ok (.iload_n 1, 1) := by decide +kernel
theorem dX1_init_29 : decode cX1_init 29 = .ok (.new 9, 3) := by decide +kernel
theorem dX1_init_32 : decode cX1_init 32 = .ok (.dup, 1) := by decide +kernel
theorem dX1_init_33 : decode cX1_init 33 = .ok (.invokespecial 21, 3) := by decide +kernel
theorem dX1_init_36 : decode cX1_init 36 = .ok (.aastore, 1) := by decide +kernel
theorem dX1_init_37 : decode cX1_init 37 = .ok (.iinc 1 1, 3) := by decide +kernel
theorem dX1_init_40 : decode cX1_init 40 = .ok (.goto (-21), 3) := by decide +kernel
theorem dX1_init_43 : decode cX1_init 43 = .ok (.return_, 1) := by decide +kernel
set_option maxRecDepth 20000 in
theorem ggX1_keep_X1_dropOldest : GoodIn wsX1_keep wsX1_dropOldest := goodIn_r _ [7, 2, 1, 30, 31] (by decide +kernel) (by decide +kernel)
set_option maxRecDepth 20000 in
theorem gX1_keep_X1_dropOldest : GoodIn wsX1_keep (wsV RX1 22 RX1 yX1_dropOldest wsX1_dropOldest) := goodIn_app (goodIn_of _ (by decide +kernel)) ggX1_keep_X1_dropOldest
set_option maxRecDepth 20000 in
theorem ggX1_keep_X4_copyFrom : GoodIn wsX1_keep wsX4_copyFrom := goodIn_r _ [12, 13, 14, 15, 16, 17, 18, 19, 20, 21, 22, 23, 24, 25, 26, 27, 28, 29, 32, 33, 34, 35, 36, 37, 38, 39, 40, 41, 42, 43, 44] (by decide +kernel) (by decide +kernel)
set_option maxRecDepth 20000 in
theorem gX1_keep_X4_copyFrom : GoodIn wsX1_keep (wsV RX1 25 RX4 yX4_copyFrom wsX4_copyFrom) := goodIn_app (goodIn_of _ (by decide +kernel)) ggX1_keep_X4_copyFrom
theorem dX1_keep_0 : decode cX1_keep 0 = .ok (.aload_n 0, 1) := by decide +kernel
theorem dX1_keep_1 : decode cX1_keep 1 = .ok (.getfield 17, 3) := by decide +kernel
theorem dX1_keep_4 : decode cX1_keep 4 = .ok (.iconst 5, 1) := by decide +kernel
theorem dX1_keep_5 : decode cX1_keep 5 = .ok (.if_icmp .lt 7, 3) := by decide +kernel
theorem dX1_keep_8 : decode cX1_keep 8 = .ok (.aload_n 0, 1) := by decide +kernel
theorem dX1_keep_9 : decode cX1_keep 9 = .ok (.invokevirtual 22, 3) := by decide +kernel
theorem dX1_keep_12 : decode cX1_keep 12 = .ok (.aload_n 0, 1) := by decide +kernel
theorem dX1_keep_13 : decode cX1_keep 13 = .ok (.getfield 11, 3) := by decide +kernel
theorem dX1_keep_16 : decode cX1_keep 16 = .ok (.aload_n 0, 1) := by decide +kernel
theorem dX1_keep_17 : decode cX1_keep 17 = .ok (.getfield 17, 3) := by decide +kernel
theorem dX1_keep_20 : decode cX1_keep 20 = .ok (.aaload, 1) := by decide +kernel
theorem dX1_keep_21 : decode cX1_keep 21 = .ok (.aload_n 1, 1) := by decide +kernel
theorem dX1_keep_22 : decode cX1_keep 22 = .ok (.invokevirtual 25, 3) := by decide +kernel
theorem dX1_keep_25 : decode cX1_keep 25 = .ok (.aload_n 0, 1) := by decide +kernel
theorem dX1_keep_26 : decode cX1_keep 26 = .ok (.dup, 1) := by decide +kernel
theorem dX1_keep_27 : decode cX1_keep 27 = .ok (.getfield 17, 3) := by decide +kernel
theorem dX1_keep_30 : decode cX1_keep 30 = .ok (.iconst 1, 1) := by decide +kernel
theorem dX1_keep_31 : decode cX1_keep 31 = .ok (.iadd, 1) := by decide +kernel
theorem dX1_keep_32 : decode cX1_keep 32 = .ok (.putfield 17, 3) := by decide +kernel
theorem dX1_keep_35 : decode cX1_keep 35 = .ok (.return_, 1) := by decide +kernel
set_option maxRecDepth 20000 in
theorem ggX1_bringBack_X4_copyFrom : GoodIn wsX1_bringBack wsX4_copyFrom := goodIn_r _ [7, 8, 9, 10, 11, 12, 13, 14, 15, 16, 17, 18, 19, 20, 21, 22, 23, 24, 27, 28, 29, 30, 31, 32, 33, 34, 35, 36, 37, 38, 39] (by decide +kernel) (by decide +kernel)
set_option maxRecDepth 20000 in
theorem gX1_bringBack_X4_copyFrom : GoodIn wsX1_bringBack (wsV RX1 25 RX4 yX4_copyFrom wsX4_copyFrom) := goodIn_app (goodIn_of _ (by decide +kernel)) ggX1_bringBack_X4_copyFrom
theorem dX1_bringBack_0 : decode cX1_bringBack 0 = .ok (.aload_n 0, 1) := by decide +kernel
theorem dX1_bringBack_1 : decode cX1_bringBack 1 = .ok (.getfield 17, 3) := by decide +kernel
theorem dX1_bringBack_4 : decode cX1_bringBack 4 = .ok (.iconst 1, 1) := by decide +kernel
theorem dX1_bringBack_5 : decode cX1_bringBack 5 = .ok (.if_icmp .ge 6, 3) := by decide +kernel
theorem dX1_bringBack_8 : decode cX1_bringBack 8 = .ok (.bipush (-5), 2) := by decide +kernel
theorem dX1_bringBack_10 : decode cX1_bringBack 10 = .ok (.ireturn, 1) := by decide +kernel
theorem dX1_bringBack_11 : decode cX1_bringBack 11 = .ok (.aload_n 0, 1) := by decide +kernel
theorem dX1_bringBack_12 : decode cX1_bringBack 12 = .ok (.dup, 1) := by decide +kernel
theorem dX1_bringBack_13 : decode cX1_bringBack 13 = .ok (.getfield 17, 3) := by decide +kernel
theorem dX1_bringBack_16 : decode cX1_bringBack 16 = .ok (.iconst 1, 1) := by decide +kernel
theorem dX1_bringBack_17 : decode cX1_bringBack 17 = .ok (.isub, 1) := by decide +kernel
theorem dX1_bringBack_18 : decode cX1_bringBack 18 = .ok (.putfield 17, 3) := by decide +kernel
theorem dX1_bringBack_21 : decode cX1_bringBack 21 = .ok (.aload_n 1, 1) := by decide +kernel
theorem dX1_bringBack_22 : decode cX1_bringBack 22 = .ok (.aload_n 0, 1) := by decide +kernel
theorem dX1_bringBack_23 : decode cX1_bringBack 23 = .ok (.getfield 11, 3) := by decide +kernel
theorem dX1_bringBack_26 : decode cX1_bringBack 26 = .ok (.aload_n 0, 1) := by decide +kernel
theorem dX1_bringBack_27 : decode cX1_bringBack 27 = .ok (.getfield 17, 3) := by decide +kernel
theorem dX1_bringBack_30 : decode cX1_bringBack 30 = .ok (.aaload, 1) := by decide +kernel
theorem dX1_bringBack_31 : decode cX1_bringBack 31 = .ok (.invokevirtual 25, 3) := by decide +kernel
theorem dX1_bringBack_34 : decode cX1_bringBack 34 = .ok (.aload_n 0, 1) := by decide +kernel
theorem dX1_bringBack_35 : decode cX1_bringBack 35 = .ok (.getfield 17, 3) := by decide +kernel
theorem dX1_bringBack_38 : decode cX1_bringBack 38 = .ok (.ireturn, 1) := by decide +kernel
theorem dX1_dropOldest_0 : decode cX1_dropOldest 0 = .ok (.aload_n 0, 1) := by decide +kernel
theorem dX1_dropOldest_1 : decode cX1_dropOldest 1 = .ok (.getfield 11, 3) := by decide +kernel
theorem dX1_dropOldest_4 : decode cX1_dropOldest 4 = .ok (.iconst 0, 1) := by decide +kernel
theorem dX1_dropOldest_5 : decode cX1_dropOldest 5 = .ok (.aaload, 1) := by decide +kernel
theorem dX1_dropOldest_6 : decode cX1_dropOldest 6 = .ok (.astore_n 1, 1) := by decide +kernel
theorem dX1_dropOldest_7 : decode cX1_dropOldest 7 = .ok (.iconst 1, 1) := by decide +kernel
theorem dX1_dropOldest_8 : decode cX1_dropOldest 8 = .ok (.istore_n 2, 1) := by decide +kernel
theorem dX1_dropOldest_9 : decode cX1_dropOldest 9 = .ok (.iload_n 2, 1) := by decide +kernel
theorem dX1_dropOldest_10 : decode cX1_dropOldest 10 = .ok (.iconst 5, 1) := by decide +kernel
theorem dX1_dropOldest_11 : decode cX1_dropOldest 11 = .ok (.if_icmp .ge 23, 3) := by decide +kernel
theorem dX1_dropOldest_14 : decode cX1_dropOldest 14 = .ok (.aload_n 0, 1) := by decide +kernel
theorem dX1_dropOldest_15 : decode cX1_dropOldest 15 = .ok (.getfield 11, 3) := by decide +kernel
theorem dX1_dropOldest_18 : decode cX1_dropOldest 18 = .ok (.iload_n 2, 1) := by decide +kernel
theorem dX1_dropOldest_19 : decode cX1_dropOldest 19 = .ok (.iconst 1, 1) := by decide +kernel
theorem dX1_dropOldest_20 : decode cX1_dropOldest 20 = .ok (.isub, 1) := by decide +kernel
theorem dX1_dropOldest_21 : decode cX1_dropOldest 21 = .ok (.aload_n 0, 1) := by decide +kernel
theorem dX1_dropOldest_22 : decode cX1_dropOldest 22 = .ok (.getfield 11, 3) := by decide +kernel
theorem dX1_dropOldest_25 : decode cX1_dropOldest 25 = .ok (.iload_n 2, 1) := by decide +kernel
theorem dX1_dropOldest_26 : decode cX1_dropOldest 26 = .ok (.aaload, 1) := by decide +kernel
theorem dX1_dropOldest_27 : decode cX1_dropOldest 27 = .ok (.aastore, 1) := by decide +kernel
theorem dX1_dropOldest_28 : decode cX1_dropOldest 28 = .ok (.iinc 2 1, 3) := by decide +kernel
theorem dX1_dropOldest_31 : decode cX1_dropOldest 31 = .ok (.goto (-22), 3) := by decide +kernel
theorem dX1_dropOldest_34 : decode cX1_dropOldest 34 = .ok (.aload_n 0, 1) := by decide +kernel
theorem dX1_dropOldest_35 : decode cX1_dropOldest 35 = .ok (.getfield 11, 3) := by decide +kernel
theorem dX1_dropOldest_38 : decode cX1_dropOldest 38 = .ok (.iconst 4, 1) := by decide +kernel
theorem dX1_dropOldest_39 : decode cX1_dropOldest 39 = .ok (.aload_n 1, 1) := by decide +kernel
theorem dX1_dropOldest_40 : decode cX1_dropOldest 40 = .ok (.aastore, 1) := by decide +kernel
theorem dX1_dropOldest_41 : decode cX1_dropOldest 41 = .ok (.aload_n 0, 1) := by decide +kernel
theorem dX1_dropOldest_42 : decode cX1_dropOldest 42 = .ok (.dup, 1) := by decide +kernel
theorem dX1_dropOldest_43 : decode cX1_dropOldest 43 = .ok (.getfield 17, 3) := by decide +kernel
theorem dX1_dropOldest_46 : decode cX1_dropOldest 46 = .ok (.iconst 1, 1) := by decide +kernel
theorem dX1_dropOldest_47 : decode cX1_dropOldest 47 = .ok (.isub, 1) := by decide +kernel
theorem dX1_dropOldest_48 : decode cX1_dropOldest 48 = .ok (.putfield 17, 3) := by decide +kernel
theorem dX1_dropOldest_51 : decode cX1_dropOldest 51 = .ok (.return_, 1) := by decide +kernel
theorem dX2_init_0 : decode cX2_init 0 = .ok (.aload_n 0, 1) := by decide +kernel
theorem dX2_init_1 : decode cX2_init 1 = .ok (.invokespecial 3, 3) := by decide +kernel
theorem dX2_init_4 : decode cX2_init 4 = .ok (.aload_n 0, 1) := by decide +kernel
theorem dX2_init_5 : decode cX2_init 5 = .ok (.bipush 6, 2) := by decide +kernel
theorem dX2_init_7 : decode cX2_init 7 = .ok (.newarray .int, 2) := by decide +kernel
theorem dX2_init_9 : decode cX2_init 9 = .ok (.putfield 9, 3) := by decide +kernel
theorem dX2_init_12 : decode cX2_init 12 = .ok (.aload_n 0, 1) := by decide +kernel
theorem dX2_init_13 : decode cX2_init 13 = .ok (.iconst 0, 1) := by decide +kernel
theorem dX2_init_14 : decode cX2_init 14 = .ok (.putfield 15, 3) := by decide +kernel
theorem dX2_init_17 : decode cX2_init 17 = .ok (.return_, 1) := by decide +kernel
set_option maxRecDepth 20000 in
theorem ggX2_lineUp_X4_conkerToSend : GoodIn wsX2_lineUp wsX4_conkerToSend := goodIn_r _ [6, 7, 8, 9, 10, 21, 22, 23, 24, 25, 26, 27, 28, 29, 30, 31, 32, 33] (by decide +kernel) (by decide +kernel)
set_option maxRecDepth 20000 in
theorem gX2_lineUp_X4_conkerToSend : GoodIn wsX2_lineUp (wsV RX2 19 RX4 yX4_conkerToSend wsX4_conkerToSend) := goodIn_app (goodIn_of _ (by decide +kernel)) ggX2_lineUp_X4_conkerToSend
set_option maxRecDepth 20000 in
theorem ggX2_lineUp_X2_insert : GoodIn wsX2_lineUp wsX2_insert := goodIn_r _ [15, 16, 17, 1, 18, 21, 22, 23, 24, 25, 26, 27, 28, 29, 30, 31, 32, 33, 19, 20] (by decide +kernel) (by decide +kernel)
set_option maxRecDepth 20000 in
theorem gX2_lineUp_X2_insert : GoodIn wsX2_lineUp (wsV RX2 25 RX2 yX2_insert wsX2_insert) := goodIn_app (goodIn_of _ (by decide +kernel)) ggX2_lineUp_X2_insert
theorem dX2_lineUp_0 : decode cX2_lineUp 0 = .ok (.aload_n 0, 1) := by decide +kernel
theorem dX2_lineUp_1 : decode cX2_lineUp 1 = .ok (.iconst 0, 1) := by decide +kernel
theorem dX2_lineUp_2 : decode cX2_lineUp 2 = .ok (.putfield 15, 3) := by decide +kernel
theorem dX2_lineUp_5 : decode cX2_lineUp 5 = .ok (.iconst 0, 1) := by decide +kernel
theorem dX2_lineUp_6 : decode cX2_lineUp 6 = .ok (.istore_n 2, 1) := by decide +kernel
theorem dX2_lineUp_7 : decode cX2_lineUp 7 = .ok (.iload_n 2, 1) := by decide +kernel
theorem dX2_lineUp_8 : decode cX2_lineUp 8 = .ok (.bipush 6, 2) := by decide +kernel
theorem dX2_lineUp_10 : decode cX2_lineUp 10 = .ok (.if_icmp .ge 25, 3) := by decide +kernel
theorem dX2_lineUp_13 : decode cX2_lineUp 13 = .ok (.aload_n 1, 1) := by decide +kernel
theorem dX2_lineUp_14 : decode cX2_lineUp 14 = .ok (.iload_n 2, 1) := by decide +kernel
theorem dX2_lineUp_15 : decode cX2_lineUp 15 = .ok (.invokevirtual 19, 3) := by decide +kernel
theorem dX2_lineUp_18 : decode cX2_lineUp 18 = .ok (.istore_n 3, 1) := by decide +kernel
theorem dX2_lineUp_19 : decode cX2_lineUp 19 = .ok (.iload_n 3, 1) := by decide +kernel
theorem dX2_lineUp_20 : decode cX2_lineUp 20 = .ok (.ifCond .lt 9, 3) := by decide +kernel
theorem dX2_lineUp_23 : decode cX2_lineUp 23 = .ok (.aload_n 0, 1) := by decide +kernel
theorem dX2_lineUp_24 : decode cX2_lineUp 24 = .ok (.iload_n 3, 1) := by decide +kernel
theorem dX2_lineUp_25 : decode cX2_lineUp 25 = .ok (.aload_n 1, 1) := by decide +kernel
theorem dX2_lineUp_26 : decode cX2_lineUp 26 = .ok (.invokevirtual 25, 3) := by decide +kernel
theorem dX2_lineUp_29 : decode cX2_lineUp 29 = .ok (.iinc 2 1, 3) := by decide +kernel
theorem dX2_lineUp_32 : decode cX2_lineUp 32 = .ok (.goto (-25), 3) := by decide +kernel
theorem dX2_lineUp_35 : decode cX2_lineUp 35 = .ok (.return_, 1) := by decide +kernel
theorem dX2_insert_0 : decode cX2_insert 0 = .ok (.aload_n 2, 1) := by decide +kernel
theorem dX2_insert_1 : decode cX2_insert 1 = .ok (.getfield 29, 3) := by decide +kernel
theorem dX2_insert_4 : decode cX2_insert 4 = .ok (.aload_n 2, 1) := by decide +kernel
theorem dX2_insert_5 : decode cX2_insert 5 = .ok (.getfield 32, 3) := by decide +kernel
theorem dX2_insert_8 : decode cX2_insert 8 = .ok (.iload_n 1, 1) := by decide +kernel
theorem dX2_insert_9 : decode cX2_insert 9 = .ok (.iaload, 1) := by decide +kernel
theorem dX2_insert_10 : decode cX2_insert 10 = .ok (.iaload, 1) := by decide +kernel
theorem dX2_insert_11 : decode cX2_insert 11 = .ok (.istore_n 3, 1) := by decide +kernel
theorem dX2_insert_12 : decode cX2_insert 12 = .ok (.aload_n 0, 1) := by decide +kernel
theorem dX2_insert_13 : decode cX2_insert 13 = .ok (.getfield 15, 3) := by decide +kernel
theorem dX2_insert_16 : decode cX2_insert 16 = .ok (.istore 4, 2) := by decide +kernel
theorem dX2_insert_18 : decode cX2_insert 18 = .ok (.iload 4, 2) := by decide +kernel
theorem dX2_insert_20 : decode cX2_insert 20 = .ok (.ifCond .le 48, 3) := by decide +kernel
theorem dX2_insert_23 : decode cX2_insert 23 = .ok (.aload_n 2, 1) := by decide +kernel
theorem dX2_insert_24 : decode cX2_insert 24 = .ok (.getfield 29, 3) := by decide +kernel
theorem dX2_insert_27 : decode cX2_insert 27 = .ok (.aload_n 2, 1) := by decide +kernel
theorem dX2_insert_28 : decode cX2_insert 28 = .ok (.getfield 32, 3) := by decide +kernel
theorem dX2_insert_31 : decode cX2_insert 31 = .ok (.aload_n 0, 1) := by decide +kernel
theorem dX2_insert_32 : decode cX2_insert 32 = .ok (.getfield 9, 3) := by decide +kernel
theorem dX2_insert_35 : decode cX2_insert 35 = .ok (.iload 4, 2) := by decide +kernel
theorem dX2_insert_37 : decode cX2_insert 37 = .ok (.iconst 1, 1) := by decide +kernel
theorem dX2_insert_38 : decode cX2_insert 38 = .ok (.isub, 1) := by decide +kernel
theorem dX2_insert_39 : decode cX2_insert 39 = .ok (.iaload, 1) := by decide +kernel
theorem dX2_insert_40 : decode cX2_insert 40 = .ok (.iaload, 1) := by decide +kernel
theorem dX2_insert_41 : decode cX2_insert 41 = .ok (.iaload, 1) := by decide +kernel
theorem dX2_insert_42 : decode cX2_insert 42 = .ok (.iload_n 3, 1) := by decide +kernel
theorem dX2_insert_43 : decode cX2_insert 43 = .ok (.if_icmp .le 25, 3) := by decide +kernel
theorem dX2_insert_46 : decode cX2_insert 46 = .ok (.aload_n 0, 1) := by decide +kernel
theorem dX2_insert_47 : decode cX2_insert 47 = .ok (.getfield 9, 3) := by decide +kernel
theorem dX2_insert_50 : decode cX2_insert 50 = .ok (.iload 4, 2) := by decide +kernel
theorem dX2_insert_52 : decode cX2_insert 52 = .ok (.aload_n 0, 1) := by decide +kernel
theorem dX2_insert_53 : decode cX2_insert 53 = .ok (.getfield 9, 3) := by decide +kernel
theorem dX2_insert_56 : decode cX2_insert 56 = .ok (.iload 4, 2) := by decide +kernel
theorem dX2_insert_58 : decode cX2_insert 58 = .ok (.iconst 1, 1) := by decide +kernel
theorem dX2_insert_59 : decode cX2_insert 59 = .ok (.isub, 1) := by decide +kernel
theorem dX2_insert_60 : decode cX2_insert 60 = .ok (.iaload, 1) := by decide +kernel
theorem dX2_insert_61 : decode cX2_insert 61 = .ok (.iastore, 1) := by decide +kernel
theorem dX2_insert_62 : decode cX2_insert 62 = .ok (.iinc 4 (-1), 3) := by decide +kernel
theorem dX2_insert_65 : decode cX2_insert 65 = .ok (.goto (-47), 3) := by decide +kernel
theorem dX2_insert_68 : decode cX2_insert 68 = .ok (.aload_n 0, 1) := by decide +kernel
theorem dX2_insert_69 : decode cX2_insert 69 = .ok (.getfield 9, 3) := by decide +kernel
theorem dX2_insert_72 : decode cX2_insert 72 = .ok (.iload 4, 2) := by decide +kernel
theorem dX2_insert_74 : decode cX2_insert 74 = .ok (.iload_n 1, 1) := by decide +kernel
theorem dX2_insert_75 : decode cX2_insert 75 = .ok (.iastore, 1) := by decide +kernel
theorem dX2_insert_76 : decode cX2_insert 76 = .ok (.aload_n 0, 1) := by decide +kernel
theorem dX2_insert_77 : decode cX2_insert 77 = .ok (.dup, 1) := by decide +kernel
theorem dX2_insert_78 : decode cX2_insert 78 = .ok (.getfield 15, 3) := by decide +kernel
theorem dX2_insert_81 : decode cX2_insert 81 = .ok (.iconst 1, 1) := by decide +kernel
theorem dX2_insert_82 : decode cX2_insert 82 = .ok (.iadd, 1) := by decide +kernel
theorem dX2_insert_83 : decode cX2_insert 83 = .ok (.putfield 15, 3) := by decide +kernel
theorem dX2_insert_86 : decode cX2_insert 86 = .ok (.return_, 1) := by decide +kernel
theorem dX2_takeOut_0 : decode cX2_takeOut 0 = .ok (.aload_n 0, 1) := by decide +kernel
theorem dX2_takeOut_1 : decode cX2_takeOut 1 = .ok (.getfield 9, 3) := by decide +kernel
theorem dX2_takeOut_4 : decode cX2_takeOut 4 = .ok (.iload_n 1, 1) := by decide +kernel
theorem dX2_takeOut_5 : decode cX2_takeOut 5 = .ok (.iaload, 1) := by decide +kernel
theorem dX2_takeOut_6 : decode cX2_takeOut 6 = .ok (.istore_n 2, 1) := by decide +kernel
theorem dX2_takeOut_7 : decode cX2_takeOut 7 = .ok (.iload_n 1, 1) := by decide +kernel
theorem dX2_takeOut_8 : decode cX2_takeOut 8 = .ok (.iconst 1, 1) := by decide +kernel
theorem dX2_takeOut_9 : decode cX2_takeOut 9 = .ok (.iadd, 1) := by decide +kernel
theorem dX2_takeOut_10 : decode cX2_takeOut 10 = .ok (.istore_n 3, 1) := by decide +kernel
theorem dX2_takeOut_11 : decode cX2_takeOut 11 = .ok (.iload_n 3, 1) := by decide +kernel
theorem dX2_takeOut_12 : decode cX2_takeOut 12 = .ok (.aload_n 0, 1) := by decide +kernel
theorem dX2_takeOut_13 : decode cX2_takeOut 13 = .ok (.getfield 15, 3) := by decide +kernel
theorem dX2_takeOut_16 : decode cX2_takeOut 16 = .ok (.if_icmp .ge 23, 3) := by decide +kernel
theorem dX2_takeOut_19 : decode cX2_takeOut 19 = .ok (.aload_n 0, 1) := by decide +kernel
theorem dX2_takeOut_20 : decode cX2_takeOut 20 = .ok (.getfield 9, 3) := by decide +kernel
theorem dX2_takeOut_23 : decode cX2_takeOut 23 = .ok (.iload_n 3, 1) := by decide +kernel
theorem dX2_takeOut_24 : decode cX2_takeOut 24 = .ok (.iconst 1, 1) := by decide +kernel
theorem dX2_takeOut_25 : decode cX2_takeOut 25 = .ok (.isub, 1) := by decide +kernel
theorem dX2_takeOut_26 : decode cX2_takeOut 26 = .ok (.aload_n 0, 1) := by decide +kernel
theorem dX2_takeOut_27 : decode cX2_takeOut 27 = .ok (.getfield 9, 3) := by decide +kernel
theorem dX2_takeOut_30 : decode cX2_takeOut 30 = .ok (.iload_n 3, 1) := by decide +kernel
theorem dX2_takeOut_31 : decode cX2_takeOut 31 = .ok (.iaload, 1) := by decide +kernel
theorem dX2_takeOut_32 : decode cX2_takeOut 32 = .ok (.iastore, 1) := by decide +kernel
theorem dX2_takeOut_33 : decode cX2_takeOut 33 = .ok (.iinc 3 1, 3) := by decide +kernel
theorem dX2_takeOut_36 : decode cX2_takeOut 36 = .ok (.goto (-25), 3) := by decide +kernel
theorem dX2_takeOut_39 : decode cX2_takeOut 39 = .ok (.aload_n 0, 1) := by decide +kernel
theorem dX2_takeOut_40 : decode cX2_takeOut 40 = .ok (.dup, 1) := by decide +kernel
theorem dX2_takeOut_41 : decode cX2_takeOut 41 = .ok (.getfield 15, 3) := by decide +kernel
theorem dX2_takeOut_44 : decode cX2_takeOut 44 = .ok (.iconst 1, 1) := by decide +kernel
theorem dX2_takeOut_45 : decode cX2_takeOut 45 = .ok (.isub, 1) := by decide +kernel
theorem dX2_takeOut_46 : decode cX2_takeOut 46 = .ok (.putfield 15, 3) := by decide +kernel
theorem dX2_takeOut_49 : decode cX2_takeOut 49 = .ok (.iload_n 2, 1) := by decide +kernel
theorem dX2_takeOut_50 : decode cX2_takeOut 50 = .ok (.ireturn, 1) := by decide +kernel
theorem dX3_init_0 : decode cX3_init 0 = .ok (.aload_n 0, 1) := by decide +kernel
theorem dX3_init_1 : decode cX3_init 1 = .ok (.invokespecial 3, 3) := by decide +kernel
theorem dX3_init_4 : decode cX3_init 4 = .ok (.aload_n 0, 1) := by decide +kernel
theorem dX3_init_5 : decode cX3_init 5 = .ok (.bipush 60, 2) := by decide +kernel
theorem dX3_init_7 : decode cX3_init 7 = .ok (.newarray .char, 2) := by decide +kernel
theorem dX3_init_9 : decode cX3_init 9 = .ok (.putfield 9, 3) := by decide +kernel
theorem dX3_init_12 : decode cX3_init 12 = .ok (.aload_n 0, 1) := by decide +kernel
theorem dX3_init_13 : decode cX3_init 13 = .ok (.iconst 0, 1) := by decide +kernel
theorem dX3_init_14 : decode cX3_init 14 = .ok (.putfield 15, 3) := by decide +kernel
theorem dX3_init_17 : decode cX3_init 17 = .ok (.aload_n 0, 1) := by decide +kernel
theorem dX3_init_18 : decode cX3_init 18 = .ok (.iconst 0, 1) := by decide +kernel
theorem dX3_init_19 : decode cX3_init 19 = .ok (.putfield 19, 3) := by decide +kernel
theorem dX3_init_22 : decode cX3_init 22 = .ok (.aload_n 0, 1) := by decide +kernel
theorem dX3_init_23 : decode cX3_init 23 = .ok (.iconst 0, 1) := by decide +kernel
theorem dX3_init_24 : decode cX3_init 24 = .ok (.putfield 22, 3) := by decide +kernel
theorem dX3_init_27 : decode cX3_init 27 = .ok (.aload_n 0, 1) := by decide +kernel
theorem dX3_init_28 : decode cX3_init 28 = .ok (.iconst 0, 1) := by decide +kernel
theorem dX3_init_29 : decode cX3_init 29 = .ok (.putfield 26, 3) := by decide +kernel
theorem dX3_init_32 : decode cX3_init 32 = .ok (.aload_n 0, 1) := by decide +kernel
theorem dX3_init_33 : decode cX3_init 33 = .ok (.iconst 0, 1) := by decide +kernel
theorem dX3_init_34 : decode cX3_init 34 = .ok (.putfield 29, 3) := by decide +kernel
theorem dX3_init_37 : decode cX3_init 37 = .ok (.aload_n 0, 1) := by decide +kernel
theorem dX3_init_38 : decode cX3_init 38 = .ok (.iconst 0, 1) := by decide +kernel
theorem dX3_init_39 : decode cX3_init 39 = .ok (.putfield 32, 3) := by decide +kernel
theorem dX3_init_42 : decode cX3_init 42 = .ok (.return_, 1) := by decide +kernel
theorem dX4_init_0 : decode cX4_init 0 = .ok (.aload_n 0, 1) := by decide +kernel
theorem dX4_init_1 : decode cX4_init 1 = .ok (.invokespecial 3, 3) := by decide +kernel
theorem dX4_init_4 : decode cX4_init 4 = .ok (.aload_n 0, 1) := by decide +kernel
theorem dX4_init_5 : decode cX4_init 5 = .ok (.bipush 6, 2) := by decide +kernel
theorem dX4_init_7 : decode cX4_init 7 = .ok (.newarray .int, 2) := by decide +kernel
theorem dX4_init_9 : decode cX4_init 9 = .ok (.putfield 9, 3) := by decide +kernel
theorem dX4_init_12 : decode cX4_init 12 = .ok (.aload_n 0, 1) := by decide +kernel
theorem dX4_init_13 : decode cX4_init 13 = .ok (.bipush 6, 2) := by decide +kernel
theorem dX4_init_15 : decode cX4_init 15 = .ok (.newarray .int, 2) := by decide +kernel
theorem dX4_init_17 : decode cX4_init 17 = .ok (.putfield 15, 3) := by decide +kernel
theorem dX4_init_20 : decode cX4_init 20 = .ok (.aload_n 0, 1) := by decide +kernel
theorem dX4_init_21 : decode cX4_init 21 = .ok (.bipush 30, 2) := by decide +kernel
theorem dX4_init_23 : decode cX4_init 23 = .ok (.newarray .int, 2) := by decide +kernel
theorem dX4_init_25 : decode cX4_init 25 = .ok (.putfield 18, 3) := by decide +kernel
theorem dX4_init_28 : decode cX4_init 28 = .ok (.aload_n 0, 1) := by decide +kernel
theorem dX4_init_29 : decode cX4_init 29 = .ok (.bipush 30, 2) := by decide +kernel
theorem dX4_init_31 : decode cX4_init 31 = .ok (.newarray .int, 2) := by decide +kernel
theorem dX4_init_33 : decode cX4_init 33 = .ok (.putfield 21, 3) := by decide +kernel
theorem dX4_init_36 : decode cX4_init 36 = .ok (.aload_n 0, 1) := by decide +kernel
theorem dX4_init_37 : decode cX4_init 37 = .ok (.bipush 30, 2) := by decide +kernel
theorem dX4_init_39 : decode cX4_init 39 = .ok (.newarray .int, 2) := by decide +kernel
theorem dX4_init_41 : decode cX4_init 41 = .ok (.putfield 24, 3) := by decide +kernel
theorem dX4_init_44 : decode cX4_init 44 = .ok (.aload_n 0, 1) := by decide +kernel
theorem dX4_init_45 : decode cX4_init 45 = .ok (.bipush 30, 2) := by decide +kernel
theorem dX4_init_47 : decode cX4_init 47 = .ok (.newarray .int, 2) := by decide +kernel
theorem dX4_init_49 : decode cX4_init 49 = .ok (.putfield 27, 3) := by decide +kernel
theorem dX4_init_52 : decode cX4_init 52 = .ok (.aload_n 0, 1) := by decide +kernel
theorem dX4_init_53 : decode cX4_init 53 = .ok (.bipush 30, 2) := by decide +kernel
theorem dX4_init_55 : decode cX4_init 55 = .ok (.newarray .int, 2) := by decide +kernel
theorem dX4_init_57 : decode cX4_init 57 = .ok (.putfield 30, 3) := by decide +kernel
theorem dX4_init_60 : decode cX4_init 60 = .ok (.aload_n 0, 1) := by decide +kernel
theorem dX4_init_61 : decode cX4_init 61 = .ok (.bipush 30, 2) := by decide +kernel
theorem dX4_init_63 : decode cX4_init 63 = .ok (.newarray .int, 2) := by decide +kernel
theorem dX4_init_65 : decode cX4_init 65 = .ok (.putfield 33, 3) := by decide +kernel
theorem dX4_init_68 : decode cX4_init 68 = .ok (.aload_n 0, 1) := by decide +kernel
theorem dX4_init_69 : decode cX4_init 69 = .ok (.bipush 30, 2) := by decide +kernel
theorem dX4_init_71 : decode cX4_init 71 = .ok (.newarray .int, 2) := by decide +kernel
theorem dX4_init_73 : decode cX4_init 73 = .ok (.putfield 36, 3) := by decide +kernel
theorem dX4_init_76 : decode cX4_init 76 = .ok (.aload_n 0, 1) := by decide +kernel
theorem dX4_init_77 : decode cX4_init 77 = .ok (.bipush 30, 2) := by decide +kernel
theorem dX4_init_79 : decode cX4_init 79 = .ok (.newarray .int, 2) := by decide +kernel
theorem dX4_init_81 : decode cX4_init 81 = .ok (.putfield 39, 3) := by decide +kernel
theorem dX4_init_84 : decode cX4_init 84 = .ok (.aload_n 0, 1) := by decide +kernel
theorem dX4_init_85 : decode cX4_init 85 = .ok (.iconst 0, 1) := by decide +kernel
theorem dX4_init_86 : decode cX4_init 86 = .ok (.putfield 42, 3) := by decide +kernel
theorem dX4_init_89 : decode cX4_init 89 = .ok (.aload_n 0, 1) := by decide +kernel
theorem dX4_init_90 : decode cX4_init 90 = .ok (.iconst 0, 1) := by decide +kernel
theorem dX4_init_91 : decode cX4_init 91 = .ok (.putfield 46, 3) := by decide +kernel
theorem dX4_init_94 : decode cX4_init 94 = .ok (.aload_n 0, 1) := by decide +kernel
theorem dX4_init_95 : decode cX4_init 95 = .ok (.iconst 0, 1) := by decide +kernel
theorem dX4_init_96 : decode cX4_init 96 = .ok (.putfield 49, 3) := by decide +kernel
theorem dX4_init_99 : decode cX4_init 99 = .ok (.iconst 0, 1) := by decide +kernel
theorem dX4_init_100 : decode cX4_init 100 = .ok (.istore_n 1, 1) := by decide +kernel
theorem dX4_init_101 : decode cX4_init 101 = .ok (.iload_n 1, 1) := by decide +kernel
theorem dX4_init_102 : decode cX4_init 102 = .ok (.bipush 6, 2) := by decide +kernel
theorem dX4_init_104 : decode cX4_init 104 = .ok (.if_icmp .ge 16, 3) := by decide +kernel
theorem dX4_init_107 : decode cX4_init 107 = .ok (.aload_n 0, 1) := by decide +kernel
theorem dX4_init_108 : decode cX4_init 108 = .ok (.getfield 9, 3) := by decide +kernel
theorem dX4_init_111 : decode cX4_init 111 = .ok (.iload_n 1, 1) := by decide +kernel
end
section
theorem dX4_init_112 : decode cX4_init 112 = .ok (.iconst 3, 1) := by decide +kernel
theorem dX4_init_113 : decode cX4_init 113 = .ok (.iastore, 1) := by decide +kernel
theorem dX4_init_114 : decode cX4_init 114 = .ok (.iinc 1 1, 3) := by decide +kernel
theorem dX4_init_117 : decode cX4_init 117 = .ok (.goto (-16), 3) := by decide +kernel
theorem dX4_init_120 : decode cX4_init 120 = .ok (.return_, 1) := by decide +kernel
theorem dX4_copyFrom_0 : decode cX4_copyFrom 0 = .ok (.aload_n 1, 1) := by decide +kernel
theorem dX4_copyFrom_1 : decode cX4_copyFrom 1 = .ok (.getfield 9, 3) := by decide +kernel
theorem dX4_copyFrom_4 : decode cX4_copyFrom 4 = .ok (.iconst 0, 1) := by decide +kernel
theorem dX4_copyFrom_5 : decode cX4_copyFrom 5 = .ok (.aload_n 0, 1) := by decide +kernel
theorem dX4_copyFrom_6 : decode cX4_copyFrom 6 = .ok (.getfield 9, 3) := by decide +kernel
theorem dX4_copyFrom_9 : decode cX4_copyFrom 9 = .ok (.iconst 0, 1) := by decide +kernel
theorem dX4_copyFrom_10 : decode cX4_copyFrom 10 = .ok (.bipush 6, 2) := by decide +kernel
theorem dX4_copyFrom_12 : decode cX4_copyFrom 12 = .ok (.invokestatic 52, 3) := by decide +kernel
theorem dX4_copyFrom_15 : decode cX4_copyFrom 15 = .ok (.aload_n 1, 1) := by decide +kernel
theorem dX4_copyFrom_16 : decode cX4_copyFrom 16 = .ok (.getfield 15, 3) := by decide +kernel
theorem dX4_copyFrom_19 : decode cX4_copyFrom 19 = .ok (.iconst 0, 1) := by decide +kernel
theorem dX4_copyFrom_20 : decode cX4_copyFrom 20 = .ok (.aload_n 0, 1) := by decide +kernel
theorem dX4_copyFrom_21 : decode cX4_copyFrom 21 = .ok (.getfield 15, 3) := by decide +kernel
theorem dX4_copyFrom_24 : decode cX4_copyFrom 24 = .ok (.iconst 0, 1) := by decide +kernel
theorem dX4_copyFrom_25 : decode cX4_copyFrom 25 = .ok (.bipush 6, 2) := by decide +kernel
theorem dX4_copyFrom_27 : decode cX4_copyFrom 27 = .ok (.invokestatic 52, 3) := by decide +kernel
theorem dX4_copyFrom_30 : decode cX4_copyFrom 30 = .ok (.aload_n 1, 1) := by decide +kernel
theorem dX4_copyFrom_31 : decode cX4_copyFrom 31 = .ok (.getfield 18, 3) := by decide +kernel
theorem dX4_copyFrom_34 : decode cX4_copyFrom 34 = .ok (.iconst 0, 1) := by decide +kernel
theorem dX4_copyFrom_35 : decode cX4_copyFrom 35 = .ok (.aload_n 0, 1) := by decide +kernel
theorem dX4_copyFrom_36 : decode cX4_copyFrom 36 = .ok (.getfield 18, 3) := by decide +kernel
theorem dX4_copyFrom_39 : decode cX4_copyFrom 39 = .ok (.iconst 0, 1) := by decide +kernel
theorem dX4_copyFrom_40 : decode cX4_copyFrom 40 = .ok (.bipush 30, 2) := by decide +kernel
theorem dX4_copyFrom_42 : decode cX4_copyFrom 42 = .ok (.invokestatic 52, 3) := by decide +kernel
theorem dX4_copyFrom_45 : decode cX4_copyFrom 45 = .ok (.aload_n 1, 1) := by decide +kernel
theorem dX4_copyFrom_46 : decode cX4_copyFrom 46 = .ok (.getfield 21, 3) := by decide +kernel
theorem dX4_copyFrom_49 : decode cX4_copyFrom 49 = .ok (.iconst 0, 1) := by decide +kernel
theorem dX4_copyFrom_50 : decode cX4_copyFrom 50 = .ok (.aload_n 0, 1) := by decide +kernel
theorem dX4_copyFrom_51 : decode cX4_copyFrom 51 = .ok (.getfield 21, 3) := by decide +kernel
theorem dX4_copyFrom_54 : decode cX4_copyFrom 54 = .ok (.iconst 0, 1) := by decide +kernel
theorem dX4_copyFrom_55 : decode cX4_copyFrom 55 = .ok (.bipush 30, 2) := by decide +kernel
theorem dX4_copyFrom_57 : decode cX4_copyFrom 57 = .ok (.invokestatic 52, 3) := by decide +kernel
theorem dX4_copyFrom_60 : decode cX4_copyFrom 60 = .ok (.aload_n 1, 1) := by decide +kernel
theorem dX4_copyFrom_61 : decode cX4_copyFrom 61 = .ok (.getfield 24, 3) := by decide +kernel
theorem dX4_copyFrom_64 : decode cX4_copyFrom 64 = .ok (.iconst 0, 1) := by decide +kernel
theorem dX4_copyFrom_65 : decode cX4_copyFrom 65 = .ok (.aload_n 0, 1) := by decide +kernel
theorem dX4_copyFrom_66 : decode cX4_copyFrom 66 = .ok (.getfield 24, 3) := by decide +kernel
theorem dX4_copyFrom_69 : decode cX4_copyFrom 69 = .ok (.iconst 0, 1) := by decide +kernel
theorem dX4_copyFrom_70 : decode cX4_copyFrom 70 = .ok (.bipush 30, 2) := by decide +kernel
theorem dX4_copyFrom_72 : decode cX4_copyFrom 72 = .ok (.invokestatic 52, 3) := by decide +kernel
theorem dX4_copyFrom_75 : decode cX4_copyFrom 75 = .ok (.aload_n 1, 1) := by decide +kernel
theorem dX4_copyFrom_76 : decode cX4_copyFrom 76 = .ok (.getfield 27, 3) := by decide +kernel
theorem dX4_copyFrom_79 : decode cX4_copyFrom 79 = .ok (.iconst 0, 1) := by decide +kernel
theorem dX4_copyFrom_80 : decode cX4_copyFrom 80 = .ok (.aload_n 0, 1) := by decide +kernel
theorem dX4_copyFrom_81 : decode cX4_copyFrom 81 = .ok (.getfield 27, 3) := by decide +kernel
theorem dX4_copyFrom_84 : decode cX4_copyFrom 84 = .ok (.iconst 0, 1) := by decide +kernel
theorem dX4_copyFrom_85 : decode cX4_copyFrom 85 = .ok (.bipush 30, 2) := by decide +kernel
theorem dX4_copyFrom_87 : decode cX4_copyFrom 87 = .ok (.invokestatic 52, 3) := by decide +kernel
theorem dX4_copyFrom_90 : decode cX4_copyFrom 90 = .ok (.aload_n 1, 1) := by decide +kernel
theorem dX4_copyFrom_91 : decode cX4_copyFrom 91 = .ok (.getfield 30, 3) := by decide +kernel
theorem dX4_copyFrom_94 : decode cX4_copyFrom 94 = .ok (.iconst 0, 1) := by decide +kernel
theorem dX4_copyFrom_95 : decode cX4_copyFrom 95 = .ok (.aload_n 0, 1) := by decide +kernel
theorem dX4_copyFrom_96 : decode cX4_copyFrom 96 = .ok (.getfield 30, 3) := by decide +kernel
theorem dX4_copyFrom_99 : decode cX4_copyFrom 99 = .ok (.iconst 0, 1) := by decide +kernel
theorem dX4_copyFrom_100 : decode cX4_copyFrom 100 = .ok (.bipush 30, 2) := by decide +kernel
theorem dX4_copyFrom_102 : decode cX4_copyFrom 102 = .ok (.invokestatic 52, 3) := by decide +kernel
theorem dX4_copyFrom_105 : decode cX4_copyFrom 105 = .ok (.aload_n 1, 1) := by decide +kernel
theorem dX4_copyFrom_106 : decode cX4_copyFrom 106 = .ok (.getfield 33, 3) := by decide +kernel
theorem dX4_copyFrom_109 : decode cX4_copyFrom 109 = .ok (.iconst 0, 1) := by decide +kernel
theorem dX4_copyFrom_110 : decode cX4_copyFrom 110 = .ok (.aload_n 0, 1) := by decide +kernel
theorem dX4_copyFrom_111 : decode cX4_copyFrom 111 = .ok (.getfield 33, 3) := by decide +kernel
theorem dX4_copyFrom_114 : decode cX4_copyFrom 114 = .ok (.iconst 0, 1) := by decide +kernel
theorem dX4_copyFrom_115 : decode cX4_copyFrom 115 = .ok (.bipush 30, 2) := by decide +kernel
theorem dX4_copyFrom_117 : decode cX4_copyFrom 117 = .ok (.invokestatic 52, 3) := by decide +kernel
theorem dX4_copyFrom_120 : decode cX4_copyFrom 120 = .ok (.aload_n 1, 1) := by decide +kernel
theorem dX4_copyFrom_121 : decode cX4_copyFrom 121 = .ok (.getfield 36, 3) := by decide +kernel
theorem dX4_copyFrom_124 : decode cX4_copyFrom 124 = .ok (.iconst 0, 1) := by decide +kernel
theorem dX4_copyFrom_125 : decode cX4_copyFrom 125 = .ok (.aload_n 0, 1) := by decide +kernel
theorem dX4_copyFrom_126 : decode cX4_copyFrom 126 = .ok (.getfield 36, 3) := by decide +kernel
theorem dX4_copyFrom_129 : decode cX4_copyFrom 129 = .ok (.iconst 0, 1) := by decide +kernel
theorem dX4_copyFrom_130 : decode cX4_copyFrom 130 = .ok (.bipush 30, 2) := by decide +kernel
theorem dX4_copyFrom_132 : decode cX4_copyFrom 132 = .ok (.invokestatic 52, 3) := by decide +kernel
theorem dX4_copyFrom_135 : decode cX4_copyFrom 135 = .ok (.aload_n 1, 1) := by decide +kernel
theorem dX4_copyFrom_136 : decode cX4_copyFrom 136 = .ok (.getfield 39, 3) := by decide +kernel
theorem dX4_copyFrom_139 : decode cX4_copyFrom 139 = .ok (.iconst 0, 1) := by decide +kernel
theorem dX4_copyFrom_140 : decode cX4_copyFrom 140 = .ok (.aload_n 0, 1) := by decide +kernel
theorem dX4_copyFrom_141 : decode cX4_copyFrom 141 = .ok (.getfield 39, 3) := by decide +kernel
theorem dX4_copyFrom_144 : decode cX4_copyFrom 144 = .ok (.iconst 0, 1) := by decide +kernel
theorem dX4_copyFrom_145 : decode cX4_copyFrom 145 = .ok (.bipush 30, 2) := by decide +kernel
theorem dX4_copyFrom_147 : decode cX4_copyFrom 147 = .ok (.invokestatic 52, 3) := by decide +kernel
theorem dX4_copyFrom_150 : decode cX4_copyFrom 150 = .ok (.aload_n 0, 1) := by decide +kernel
theorem dX4_copyFrom_151 : decode cX4_copyFrom 151 = .ok (.aload_n 1, 1) := by decide +kernel
theorem dX4_copyFrom_152 : decode cX4_copyFrom 152 = .ok (.getfield 42, 3) := by decide +kernel
theorem dX4_copyFrom_155 : decode cX4_copyFrom 155 = .ok (.putfield 42, 3) := by decide +kernel
theorem dX4_copyFrom_158 : decode cX4_copyFrom 158 = .ok (.aload_n 0, 1) := by decide +kernel
theorem dX4_copyFrom_159 : decode cX4_copyFrom 159 = .ok (.aload_n 1, 1) := by decide +kernel
theorem dX4_copyFrom_160 : decode cX4_copyFrom 160 = .ok (.getfield 46, 3) := by decide +kernel
theorem dX4_copyFrom_163 : decode cX4_copyFrom 163 = .ok (.putfield 46, 3) := by decide +kernel
theorem dX4_copyFrom_166 : decode cX4_copyFrom 166 = .ok (.aload_n 0, 1) := by decide +kernel
theorem dX4_copyFrom_167 : decode cX4_copyFrom 167 = .ok (.aload_n 1, 1) := by decide +kernel
theorem dX4_copyFrom_168 : decode cX4_copyFrom 168 = .ok (.getfield 49, 3) := by decide +kernel
theorem dX4_copyFrom_171 : decode cX4_copyFrom 171 = .ok (.putfield 49, 3) := by decide +kernel
theorem dX4_copyFrom_174 : decode cX4_copyFrom 174 = .ok (.return_, 1) := by decide +kernel
set_option maxRecDepth 20000 in
theorem ggX4_hasConker_X5_isWithin : GoodIn wsX4_hasConker wsX5_isWithin := goodIn_r _ [4] (by decide +kernel) (by decide +kernel)
set_option maxRecDepth 20000 in
theorem gX4_hasConker_X5_isWithin_n58 : GoodIn wsX4_hasConker (wsX5_isWithin) := ggX4_hasConker_X5_isWithin
theorem dX4_hasConker_0 : decode cX4_hasConker 0 = .ok (.iload_n 1, 1) := by decide +kernel
theorem dX4_hasConker_1 : decode cX4_hasConker 1 = .ok (.iconst 0, 1) := by decide +kernel
theorem dX4_hasConker_2 : decode cX4_hasConker 2 = .ok (.aload_n 0, 1) := by decide +kernel
theorem dX4_hasConker_3 : decode cX4_hasConker 3 = .ok (.getfield 42, 3) := by decide +kernel
theorem dX4_hasConker_6 : decode cX4_hasConker 6 = .ok (.iconst 1, 1) := by decide +kernel
theorem dX4_hasConker_7 : decode cX4_hasConker 7 = .ok (.isub, 1) := by decide +kernel
theorem dX4_hasConker_8 : decode cX4_hasConker 8 = .ok (.invokestatic 58, 3) := by decide +kernel
theorem dX4_hasConker_11 : decode cX4_hasConker 11 = .ok (.ireturn, 1) := by decide +kernel
set_option maxRecDepth 20000 in
theorem ggX4_strikeError_X5_isWithin : GoodIn wsX4_strikeError wsX5_isWithin := goodIn_r _ [3] (by decide +kernel) (by decide +kernel)
set_option maxRecDepth 20000 in
theorem gX4_strikeError_X5_isWithin_n58 : GoodIn wsX4_strikeError (wsX5_isWithin) := ggX4_strikeError_X5_isWithin
set_option maxRecDepth 20000 in
theorem ggX4_strikeError_X4_pairError : GoodIn wsX4_strikeError wsX4_pairError := goodIn_r _ [8, 9, 10, 11, 12, 7, 13, 14, 1, 2, 3, 15, 16, 17, 18, 19, 20, 21, 22, 23, 24, 25, 26, 27, 28, 29, 30, 31, 32] (by decide +kernel) (by decide +kernel)
set_option maxRecDepth 20000 in
theorem gX4_strikeError_X4_pairError : GoodIn wsX4_strikeError (wsV RX4 62 RX4 yX4_pairError wsX4_pairError) := goodIn_app (goodIn_of _ (by decide +kernel)) ggX4_strikeError_X4_pairError
theorem dX4_strikeError_0 : decode cX4_strikeError 0 = .ok (.aload_n 0, 1) := by decide +kernel
theorem dX4_strikeError_1 : decode cX4_strikeError 1 = .ok (.iload_n 1, 1) := by decide +kernel
theorem dX4_strikeError_2 : decode cX4_strikeError 2 = .ok (.iload_n 2, 1) := by decide +kernel
theorem dX4_strikeError_3 : decode cX4_strikeError 3 = .ok (.iload_n 3, 1) := by decide +kernel
theorem dX4_strikeError_4 : decode cX4_strikeError 4 = .ok (.iconst 1, 1) := by decide +kernel
theorem dX4_strikeError_5 : decode cX4_strikeError 5 = .ok (.bipush 9, 2) := by decide +kernel
theorem dX4_strikeError_7 : decode cX4_strikeError 7 = .ok (.invokestatic 58, 3) := by decide +kernel
theorem dX4_strikeError_10 : decode cX4_strikeError 10 = .ok (.invokevirtual 62, 3) := by decide +kernel
theorem dX4_strikeError_13 : decode cX4_strikeError 13 = .ok (.ireturn, 1) := by decide +kernel
set_option maxRecDepth 20000 in
theorem ggX4_boutError_X5_isWithin : GoodIn wsX4_boutError wsX5_isWithin := goodIn_r _ [4] (by decide +kernel) (by decide +kernel)
set_option maxRecDepth 20000 in
theorem gX4_boutError_X5_isWithin_n58 : GoodIn wsX4_boutError (wsX5_isWithin) := ggX4_boutError_X5_isWithin
set_option maxRecDepth 20000 in
theorem ggX4_boutError_X4_pairError : GoodIn wsX4_boutError wsX4_pairError := goodIn_r _ [9, 10, 11, 12, 13, 8, 14, 15, 2, 3, 4, 16, 17, 18, 19, 20, 21, 22, 23, 24, 25, 26, 27, 28, 29, 30, 31, 32, 33] (by decide +kernel) (by decide +kernel)
set_option maxRecDepth 20000 in
theorem gX4_boutError_X4_pairError : GoodIn wsX4_boutError (wsV RX4 62 RX4 yX4_pairError wsX4_pairError) := goodIn_app (goodIn_of _ (by decide +kernel)) ggX4_boutError_X4_pairError
theorem dX4_boutError_0 : decode cX4_boutError 0 = .ok (.aload_n 0, 1) := by decide +kernel
theorem dX4_boutError_1 : decode cX4_boutError 1 = .ok (.iload_n 1, 1) := by decide +kernel
theorem dX4_boutError_2 : decode cX4_boutError 2 = .ok (.iload_n 2, 1) := by decide +kernel
theorem dX4_boutError_3 : decode cX4_boutError 3 = .ok (.iload_n 3, 1) := by decide +kernel
theorem dX4_boutError_4 : decode cX4_boutError 4 = .ok (.iconst 0, 1) := by decide +kernel
theorem dX4_boutError_5 : decode cX4_boutError 5 = .ok (.ldc 66, 2) := by decide +kernel
theorem dX4_boutError_7 : decode cX4_boutError 7 = .ok (.invokestatic 58, 3) := by decide +kernel
theorem dX4_boutError_10 : decode cX4_boutError 10 = .ok (.invokevirtual 62, 3) := by decide +kernel
theorem dX4_boutError_13 : decode cX4_boutError 13 = .ok (.ireturn, 1) := by decide +kernel
set_option maxRecDepth 20000 in
theorem ggX4_pairError_X4_hasConker : GoodIn wsX4_pairError wsX4_hasConker := goodIn_r _ [6, 7, 8, 9, 10, 16, 17, 18, 19, 20, 21, 22, 23, 24, 25, 26, 27, 28] (by decide +kernel) (by decide +kernel)
set_option maxRecDepth 20000 in
theorem gX4_pairError_X4_hasConker : GoodIn wsX4_pairError (wsV RX4 67 RX4 yX4_hasConker wsX4_hasConker) := goodIn_app (goodIn_of _ (by decide +kernel)) ggX4_pairError_X4_hasConker
set_option maxRecDepth 20000 in
theorem ggX4_pairError_X4_areInPlay : GoodIn wsX4_pairError wsX4_areInPlay := goodIn_r _ [14, 15, 16, 17, 18, 19, 20, 21, 22, 23, 24, 25, 26, 27, 28] (by decide +kernel) (by decide +kernel)
set_option maxRecDepth 20000 in
theorem gX4_pairError_X4_areInPlay : GoodIn wsX4_pairError (wsV RX4 71 RX4 yX4_areInPlay wsX4_areInPlay) := goodIn_app (goodIn_of _ (by decide +kernel)) ggX4_pairError_X4_areInPlay
theorem dX4_pairError_0 : decode cX4_pairError 0 = .ok (.aload_n 0, 1) := by decide +kernel
theorem dX4_pairError_1 : decode cX4_pairError 1 = .ok (.iload_n 1, 1) := by decide +kernel
theorem dX4_pairError_2 : decode cX4_pairError 2 = .ok (.invokevirtual 67, 3) := by decide +kernel
theorem dX4_pairError_5 : decode cX4_pairError 5 = .ok (.ifCond .eq 11, 3) := by decide +kernel
theorem dX4_pairError_8 : decode cX4_pairError 8 = .ok (.aload_n 0, 1) := by decide +kernel
theorem dX4_pairError_9 : decode cX4_pairError 9 = .ok (.iload_n 2, 1) := by decide +kernel
theorem dX4_pairError_10 : decode cX4_pairError 10 = .ok (.invokevirtual 67, 3) := by decide +kernel
theorem dX4_pairError_13 : decode cX4_pairError 13 = .ok (.ifCond .ne 5, 3) := by decide +kernel
theorem dX4_pairError_16 : decode cX4_pairError 16 = .ok (.iconst (-1), 1) := by decide +kernel
theorem dX4_pairError_17 : decode cX4_pairError 17 = .ok (.ireturn, 1) := by decide +kernel
theorem dX4_pairError_18 : decode cX4_pairError 18 = .ok (.iload_n 3, 1) := by decide +kernel
theorem dX4_pairError_19 : decode cX4_pairError 19 = .ok (.ifCond .ne 6, 3) := by decide +kernel
theorem dX4_pairError_22 : decode cX4_pairError 22 = .ok (.bipush (-2), 2) := by decide +kernel
theorem dX4_pairError_24 : decode cX4_pairError 24 = .ok (.ireturn, 1) := by decide +kernel
theorem dX4_pairError_25 : decode cX4_pairError 25 = .ok (.aload_n 0, 1) := by decide +kernel
theorem dX4_pairError_26 : decode cX4_pairError 26 = .ok (.getfield 18, 3) := by decide +kernel
theorem dX4_pairError_29 : decode cX4_pairError 29 = .ok (.iload_n 1, 1) := by decide +kernel
theorem dX4_pairError_30 : decode cX4_pairError 30 = .ok (.iaload, 1) := by decide +kernel
theorem dX4_pairError_31 : decode cX4_pairError 31 = .ok (.aload_n 0, 1) := by decide +kernel
theorem dX4_pairError_32 : decode cX4_pairError 32 = .ok (.getfield 18, 3) := by decide +kernel
theorem dX4_pairError_35 : decode cX4_pairError 35 = .ok (.iload_n 2, 1) := by decide +kernel
theorem dX4_pairError_36 : decode cX4_pairError 36 = .ok (.iaload, 1) := by decide +kernel
theorem dX4_pairError_37 : decode cX4_pairError 37 = .ok (.if_icmp .eq 12, 3) := by decide +kernel
theorem dX4_pairError_40 : decode cX4_pairError 40 = .ok (.aload_n 0, 1) := by decide +kernel
theorem dX4_pairError_41 : decode cX4_pairError 41 = .ok (.iload_n 1, 1) := by decide +kernel
theorem dX4_pairError_42 : decode cX4_pairError 42 = .ok (.iload_n 2, 1) := by decide +kernel
theorem dX4_pairError_43 : decode cX4_pairError 43 = .ok (.invokevirtual 71, 3) := by decide +kernel
theorem dX4_pairError_46 : decode cX4_pairError 46 = .ok (.ifCond .ne 8, 3) := by decide +kernel
theorem dX4_pairError_49 : decode cX4_pairError 49 = .ok (.bipush (-4), 2) := by decide +kernel
theorem dX4_pairError_51 : decode cX4_pairError 51 = .ok (.goto 4, 3) := by decide +kernel
theorem dX4_pairError_54 : decode cX4_pairError 54 = .ok (.iconst 0, 1) := by decide +kernel
theorem dX4_pairError_55 : decode cX4_pairError 55 = .ok (.ireturn, 1) := by decide +kernel
set_option maxRecDepth 20000 in
theorem ggX4_mendError_X4_fallenError : GoodIn wsX4_mendError wsX4_fallenError := goodIn_r _ [7, 8, 9, 10, 11, 6, 12, 13, 14, 15, 16, 17, 18, 19, 20, 21, 22, 23, 24, 25, 26, 27, 28, 29] (by decide +kernel) (by decide +kernel)
set_option maxRecDepth 20000 in
theorem gX4_mendError_X4_fallenError : GoodIn wsX4_mendError (wsV RX4 75 RX4 yX4_fallenError wsX4_fallenError) := goodIn_app (goodIn_of _ (by decide +kernel)) ggX4_mendError_X4_fallenError
theorem dX4_mendError_0 : decode cX4_mendError 0 = .ok (.aload_n 0, 1) := by decide +kernel
theorem dX4_mendError_1 : decode cX4_mendError 1 = .ok (.iload_n 1, 1) := by decide +kernel
theorem dX4_mendError_2 : decode cX4_mendError 2 = .ok (.invokevirtual 75, 3) := by decide +kernel
theorem dX4_mendError_5 : decode cX4_mendError 5 = .ok (.istore_n 2, 1) := by decide +kernel
theorem dX4_mendError_6 : decode cX4_mendError 6 = .ok (.iload_n 2, 1) := by decide +kernel
theorem dX4_mendError_7 : decode cX4_mendError 7 = .ok (.ifCond .eq 5, 3) := by decide +kernel
theorem dX4_mendError_10 : decode cX4_mendError 10 = .ok (.iload_n 2, 1) := by decide +kernel
theorem dX4_mendError_11 : decode cX4_mendError 11 = .ok (.ireturn, 1) := by decide +kernel
theorem dX4_mendError_12 : decode cX4_mendError 12 = .ok (.aload_n 0, 1) := by decide +kernel
theorem dX4_mendError_13 : decode cX4_mendError 13 = .ok (.getfield 9, 3) := by decide +kernel
theorem dX4_mendError_16 : decode cX4_mendError 16 = .ok (.aload_n 0, 1) := by decide +kernel
theorem dX4_mendError_17 : decode cX4_mendError 17 = .ok (.getfield 18, 3) := by decide +kernel
theorem dX4_mendError_20 : decode cX4_mendError 20 = .ok (.iload_n 1, 1) := by decide +kernel
theorem dX4_mendError_21 : decode cX4_mendError 21 = .ok (.iaload, 1) := by decide +kernel
theorem dX4_mendError_22 : decode cX4_mendError 22 = .ok (.iaload, 1) := by decide +kernel
theorem dX4_mendError_23 : decode cX4_mendError 23 = .ok (.iconst 1, 1) := by decide +kernel
theorem dX4_mendError_24 : decode cX4_mendError 24 = .ok (.if_icmp .ge 8, 3) := by decide +kernel
theorem dX4_mendError_27 : decode cX4_mendError 27 = .ok (.bipush (-4), 2) := by decide +kernel
theorem dX4_mendError_29 : decode cX4_mendError 29 = .ok (.goto 4, 3) := by decide +kernel
theorem dX4_mendError_32 : decode cX4_mendError 32 = .ok (.iconst 0, 1) := by decide +kernel
theorem dX4_mendError_33 : decode cX4_mendError 33 = .ok (.ireturn, 1) := by decide +kernel
set_option maxRecDepth 20000 in
theorem ggX4_fallenError_X4_hasConker : GoodIn wsX4_fallenError wsX4_hasConker := goodIn_r _ [6, 7, 8, 9, 10, 11, 12, 13, 14, 15, 16, 17, 18, 19, 20, 21, 22, 23] (by decide +kernel) (by decide +kernel)
set_option maxRecDepth 20000 in
theorem gX4_fallenError_X4_hasConker : GoodIn wsX4_fallenError (wsV RX4 67 RX4 yX4_hasConker wsX4_hasConker) := goodIn_app (goodIn_of _ (by decide +kernel)) ggX4_fallenError_X4_hasConker
theorem dX4_fallenError_0 : decode cX4_fallenError 0 = .ok (.aload_n 0, 1) := by decide +kernel
theorem dX4_fallenError_1 : decode cX4_fallenError 1 = .ok (.iload_n 1, 1) := by decide +kernel
theorem dX4_fallenError_2 : decode cX4_fallenError 2 = .ok (.invokevirtual 67, 3) := by decide +kernel
theorem dX4_fallenError_5 : decode cX4_fallenError 5 = .ok (.ifCond .ne 5, 3) := by decide +kernel
theorem dX4_fallenError_8 : decode cX4_fallenError 8 = .ok (.iconst (-1), 1) := by decide +kernel
theorem dX4_fallenError_9 : decode cX4_fallenError 9 = .ok (.ireturn, 1) := by decide +kernel
theorem dX4_fallenError_10 : decode cX4_fallenError 10 = .ok (.aload_n 0, 1) := by decide +kernel
theorem dX4_fallenError_11 : decode cX4_fallenError 11 = .ok (.getfield 36, 3) := by decide +kernel
theorem dX4_fallenError_14 : decode cX4_fallenError 14 = .ok (.iload_n 1, 1) := by decide +kernel
theorem dX4_fallenError_15 : decode cX4_fallenError 15 = .ok (.iaload, 1) := by decide +kernel
theorem dX4_fallenError_16 : decode cX4_fallenError 16 = .ok (.iconst 1, 1) := by decide +kernel
theorem dX4_fallenError_17 : decode cX4_fallenError 17 = .ok (.if_icmp .ne 7, 3) := by decide +kernel
theorem dX4_fallenError_20 : decode cX4_fallenError 20 = .ok (.iconst 0, 1) := by decide +kernel
theorem dX4_fallenError_21 : decode cX4_fallenError 21 = .ok (.goto 5, 3) := by decide +kernel
theorem dX4_fallenError_24 : decode cX4_fallenError 24 = .ok (.bipush (-4), 2) := by decide +kernel
theorem dX4_fallenError_26 : decode cX4_fallenError 26 = .ok (.ireturn, 1) := by decide +kernel
theorem dX4_addConker_0 : decode cX4_addConker 0 = .ok (.aload_n 0, 1) := by decide +kernel
theorem dX4_addConker_1 : decode cX4_addConker 1 = .ok (.getfield 42, 3) := by decide +kernel
theorem dX4_addConker_4 : decode cX4_addConker 4 = .ok (.istore_n 3, 1) := by decide +kernel
theorem dX4_addConker_5 : decode cX4_addConker 5 = .ok (.aload_n 0, 1) := by decide +kernel
theorem dX4_addConker_6 : decode cX4_addConker 6 = .ok (.getfield 9, 3) := by decide +kernel
theorem dX4_addConker_9 : decode cX4_addConker 9 = .ok (.iload_n 1, 1) := by decide +kernel
theorem dX4_addConker_10 : decode cX4_addConker 10 = .ok (.dup2, 1) := by decide +kernel
theorem dX4_addConker_11 : decode cX4_addConker 11 = .ok (.iaload, 1) := by decide +kernel
theorem dX4_addConker_12 : decode cX4_addConker 12 = .ok (.iconst 1, 1) := by decide +kernel
theorem dX4_addConker_13 : decode cX4_addConker 13 = .ok (.isub, 1) := by decide +kernel
theorem dX4_addConker_14 : decode cX4_addConker 14 = .ok (.iastore, 1) := by decide +kernel
theorem dX4_addConker_15 : decode cX4_addConker 15 = .ok (.aload_n 0, 1) := by decide +kernel
theorem dX4_addConker_16 : decode cX4_addConker 16 = .ok (.getfield 18, 3) := by decide +kernel
theorem dX4_addConker_19 : decode cX4_addConker 19 = .ok (.iload_n 3, 1) := by decide +kernel
theorem dX4_addConker_20 : decode cX4_addConker 20 = .ok (.iload_n 1, 1) := by decide +kernel
theorem dX4_addConker_21 : decode cX4_addConker 21 = .ok (.iastore, 1) := by decide +kernel
theorem dX4_addConker_22 : decode cX4_addConker 22 = .ok (.aload_n 0, 1) := by decide +kernel
theorem dX4_addConker_23 : decode cX4_addConker 23 = .ok (.getfield 21, 3) := by decide +kernel
theorem dX4_addConker_26 : decode cX4_addConker 26 = .ok (.iload_n 3, 1) := by decide +kernel
theorem dX4_addConker_27 : decode cX4_addConker 27 = .ok (.iload_n 2, 1) := by decide +kernel
theorem dX4_addConker_28 : decode cX4_addConker 28 = .ok (.iastore, 1) := by decide +kernel
theorem dX4_addConker_29 : decode cX4_addConker 29 = .ok (.aload_n 0, 1) := by decide +kernel
theorem dX4_addConker_30 : decode cX4_addConker 30 = .ok (.getfield 24, 3) := by decide +kernel
theorem dX4_addConker_33 : decode cX4_addConker 33 = .ok (.iload_n 3, 1) := by decide +kernel
theorem dX4_addConker_34 : decode cX4_addConker 34 = .ok (.iconst 0, 1) := by decide +kernel
theorem dX4_addConker_35 : decode cX4_addConker 35 = .ok (.iastore, 1) := by decide +kernel
theorem dX4_addConker_36 : decode cX4_addConker 36 = .ok (.aload_n 0, 1) := by decide +kernel
theorem dX4_addConker_37 : decode cX4_addConker 37 = .ok (.getfield 27, 3) := by decide +kernel
theorem dX4_addConker_40 : decode cX4_addConker 40 = .ok (.iload_n 3, 1) := by decide +kernel
theorem dX4_addConker_41 : decode cX4_addConker 41 = .ok (.iconst 0, 1) := by decide +kernel
theorem dX4_addConker_42 : decode cX4_addConker 42 = .ok (.iastore, 1) := by decide +kernel
theorem dX4_addConker_43 : decode cX4_addConker 43 = .ok (.aload_n 0, 1) := by decide +kernel
theorem dX4_addConker_44 : decode cX4_addConker 44 = .ok (.getfield 30, 3) := by decide +kernel
theorem dX4_addConker_47 : decode cX4_addConker 47 = .ok (.iload_n 3, 1) := by decide +kernel
theorem dX4_addConker_48 : decode cX4_addConker 48 = .ok (.iconst 0, 1) := by decide +kernel
theorem dX4_addConker_49 : decode cX4_addConker 49 = .ok (.iastore, 1) := by decide +kernel
theorem dX4_addConker_50 : decode cX4_addConker 50 = .ok (.aload_n 0, 1) := by decide +kernel
theorem dX4_addConker_51 : decode cX4_addConker 51 = .ok (.getfield 33, 3) := by decide +kernel
theorem dX4_addConker_54 : decode cX4_addConker 54 = .ok (.iload_n 3, 1) := by decide +kernel
theorem dX4_addConker_55 : decode cX4_addConker 55 = .ok (.bipush (-5), 2) := by decide +kernel
theorem dX4_addConker_57 : decode cX4_addConker 57 = .ok (.iastore, 1) := by decide +kernel
theorem dX4_addConker_58 : decode cX4_addConker 58 = .ok (.aload_n 0, 1) := by decide +kernel
theorem dX4_addConker_59 : decode cX4_addConker 59 = .ok (.getfield 36, 3) := by decide +kernel
theorem dX4_addConker_62 : decode cX4_addConker 62 = .ok (.iload_n 3, 1) := by decide +kernel
theorem dX4_addConker_63 : decode cX4_addConker 63 = .ok (.iconst 0, 1) := by decide +kernel
theorem dX4_addConker_64 : decode cX4_addConker 64 = .ok (.iastore, 1) := by decide +kernel
theorem dX4_addConker_65 : decode cX4_addConker 65 = .ok (.aload_n 0, 1) := by decide +kernel
theorem dX4_addConker_66 : decode cX4_addConker 66 = .ok (.getfield 39, 3) := by decide +kernel
theorem dX4_addConker_69 : decode cX4_addConker 69 = .ok (.iload_n 3, 1) := by decide +kernel
theorem dX4_addConker_70 : decode cX4_addConker 70 = .ok (.bipush (-5), 2) := by decide +kernel
theorem dX4_addConker_72 : decode cX4_addConker 72 = .ok (.iastore, 1) := by decide +kernel
theorem dX4_addConker_73 : decode cX4_addConker 73 = .ok (.aload_n 0, 1) := by decide +kernel
theorem dX4_addConker_74 : decode cX4_addConker 74 = .ok (.dup, 1) := by decide +kernel
theorem dX4_addConker_75 : decode cX4_addConker 75 = .ok (.getfield 42, 3) := by decide +kernel
theorem dX4_addConker_78 : decode cX4_addConker 78 = .ok (.iconst 1, 1) := by decide +kernel
theorem dX4_addConker_79 : decode cX4_addConker 79 = .ok (.iadd, 1) := by decide +kernel
theorem dX4_addConker_80 : decode cX4_addConker 80 = .ok (.putfield 42, 3) := by decide +kernel
theorem dX4_addConker_83 : decode cX4_addConker 83 = .ok (.iload_n 3, 1) := by decide +kernel
theorem dX4_addConker_84 : decode cX4_addConker 84 = .ok (.ireturn, 1) := by decide +kernel
theorem dX4_threadAgain_0 : decode cX4_threadAgain 0 = .ok (.aload_n 0, 1) := by decide +kernel
theorem dX4_threadAgain_1 : decode cX4_threadAgain 1 = .ok (.getfield 18, 3) := by decide +kernel
theorem dX4_threadAgain_4 : decode cX4_threadAgain 4 = .ok (.iload_n 1, 1) := by decide +kernel
theorem dX4_threadAgain_5 : decode cX4_threadAgain 5 = .ok (.iaload, 1) := by decide +kernel
theorem dX4_threadAgain_6 : decode cX4_threadAgain 6 = .ok (.istore_n 2, 1) := by decide +kernel
theorem dX4_threadAgain_7 : decode cX4_threadAgain 7 = .ok (.aload_n 0, 1) := by decide +kernel
theorem dX4_threadAgain_8 : decode cX4_threadAgain 8 = .ok (.getfield 9, 3) := by decide +kernel
theorem dX4_threadAgain_11 : decode cX4_threadAgain 11 = .ok (.iload_n 2, 1) := by decide +kernel
theorem dX4_threadAgain_12 : decode cX4_threadAgain 12 = .ok (.dup2, 1) := by decide +kernel
theorem dX4_threadAgain_13 : decode cX4_threadAgain 13 = .ok (.iaload, 1) := by decide +kernel
theorem dX4_threadAgain_14 : decode cX4_threadAgain 14 = .ok (.iconst 1, 1) := by decide +kernel
theorem dX4_threadAgain_15 : decode cX4_threadAgain 15 = .ok (.isub, 1) := by decide +kernel
theorem dX4_threadAgain_16 : decode cX4_threadAgain 16 = .ok (.iastore, 1) := by decide +kernel
theorem dX4_threadAgain_17 : decode cX4_threadAgain 17 = .ok (.aload_n 0, 1) := by decide +kernel
theorem dX4_threadAgain_18 : decode cX4_threadAgain 18 = .ok (.getfield 27, 3) := by decide +kernel
theorem dX4_threadAgain_21 : decode cX4_threadAgain 21 = .ok (.iload_n 1, 1) := by decide +kernel
theorem dX4_threadAgain_22 : decode cX4_threadAgain 22 = .ok (.iconst 0, 1) := by decide +kernel
theorem dX4_threadAgain_23 : decode cX4_threadAgain 23 = .ok (.iastore, 1) := by decide +kernel
theorem dX4_threadAgain_24 : decode cX4_threadAgain 24 = .ok (.aload_n 0, 1) := by decide +kernel
theorem dX4_threadAgain_25 : decode cX4_threadAgain 25 = .ok (.getfield 36, 3) := by decide +kernel
theorem dX4_threadAgain_28 : decode cX4_threadAgain 28 = .ok (.iload_n 1, 1) := by decide +kernel
theorem dX4_threadAgain_29 : decode cX4_threadAgain 29 = .ok (.iconst 0, 1) := by decide +kernel
theorem dX4_threadAgain_30 : decode cX4_threadAgain 30 = .ok (.iastore, 1) := by decide +kernel
theorem dX4_threadAgain_31 : decode cX4_threadAgain 31 = .ok (.aload_n 0, 1) := by decide +kernel
theorem dX4_threadAgain_32 : decode cX4_threadAgain 32 = .ok (.getfield 9, 3) := by decide +kernel
theorem dX4_threadAgain_35 : decode cX4_threadAgain 35 = .ok (.iload_n 2, 1) := by decide +kernel
theorem dX4_threadAgain_36 : decode cX4_threadAgain 36 = .ok (.iaload, 1) := by decide +kernel
theorem dX4_threadAgain_37 : decode cX4_threadAgain 37 = .ok (.ireturn, 1) := by decide +kernel
set_option maxRecDepth 20000 in
theorem ggX4_crush_X4_takeVictoriesOfSmashed : GoodIn wsX4_crush wsX4_takeVictoriesOfSmashed := goodIn_r _ [6, 7, 8, 9, 10, 11, 12, 13, 14, 15, 16, 17, 18, 19, 20, 21, 22] (by decide +kernel) (by decide +kernel)
set_option maxRecDepth 20000 in
theorem gX4_crush_X4_takeVictoriesOfSmashed : GoodIn wsX4_crush (wsV RX4 79 RX4 yX4_takeVictoriesOfSmashed wsX4_takeVictoriesOfSmashed) := goodIn_app (goodIn_of _ (by decide +kernel)) ggX4_crush_X4_takeVictoriesOfSmashed
theorem dX4_crush_0 : decode cX4_crush 0 = .ok (.aload_n 0, 1) := by decide +kernel
theorem dX4_crush_1 : decode cX4_crush 1 = .ok (.iload_n 1, 1) := by decide +kernel
theorem dX4_crush_2 : decode cX4_crush 2 = .ok (.invokevirtual 79, 3) := by decide +kernel
theorem dX4_crush_5 : decode cX4_crush 5 = .ok (.istore_n 2, 1) := by decide +kernel
theorem dX4_crush_6 : decode cX4_crush 6 = .ok (.aload_n 0, 1) := by decide +kernel
theorem dX4_crush_7 : decode cX4_crush 7 = .ok (.dup, 1) := by decide +kernel
theorem dX4_crush_8 : decode cX4_crush 8 = .ok (.getfield 46, 3) := by decide +kernel
theorem dX4_crush_11 : decode cX4_crush 11 = .ok (.iload_n 2, 1) := by decide +kernel
theorem dX4_crush_12 : decode cX4_crush 12 = .ok (.iadd, 1) := by decide +kernel
theorem dX4_crush_13 : decode cX4_crush 13 = .ok (.putfield 46, 3) := by decide +kernel
theorem dX4_crush_16 : decode cX4_crush 16 = .ok (.iload_n 2, 1) := by decide +kernel
theorem dX4_crush_17 : decode cX4_crush 17 = .ok (.ireturn, 1) := by decide +kernel
theorem dX4_settleBoast_0 : decode cX4_settleBoast 0 = .ok (.aload_n 0, 1) := by decide +kernel
theorem dX4_settleBoast_1 : decode cX4_settleBoast 1 = .ok (.getfield 33, 3) := by decide +kernel
theorem dX4_settleBoast_4 : decode cX4_settleBoast 4 = .ok (.iload_n 2, 1) := by decide +kernel
theorem dX4_settleBoast_5 : decode cX4_settleBoast 5 = .ok (.iaload, 1) := by decide +kernel
theorem dX4_settleBoast_6 : decode cX4_settleBoast 6 = .ok (.aload_n 0, 1) := by decide +kernel
theorem dX4_settleBoast_7 : decode cX4_settleBoast 7 = .ok (.getfield 30, 3) := by decide +kernel
theorem dX4_settleBoast_10 : decode cX4_settleBoast 10 = .ok (.iload_n 2, 1) := by decide +kernel
theorem dX4_settleBoast_11 : decode cX4_settleBoast 11 = .ok (.iaload, 1) := by decide +kernel
theorem dX4_settleBoast_12 : decode cX4_settleBoast 12 = .ok (.if_icmp .le 12, 3) := by decide +kernel
theorem dX4_settleBoast_15 : decode cX4_settleBoast 15 = .ok (.aload_n 0, 1) := by decide +kernel
theorem dX4_settleBoast_16 : decode cX4_settleBoast 16 = .ok (.getfield 18, 3) := by decide +kernel
theorem dX4_settleBoast_19 : decode cX4_settleBoast 19 = .ok (.iload_n 2, 1) := by decide +kernel
theorem dX4_settleBoast_20 : decode cX4_settleBoast 20 = .ok (.iaload, 1) := by decide +kernel
theorem dX4_settleBoast_21 : decode cX4_settleBoast 21 = .ok (.goto 4, 3) := by decide +kernel
theorem dX4_settleBoast_24 : decode cX4_settleBoast 24 = .ok (.iload_n 1, 1) := by decide +kernel
theorem dX4_settleBoast_25 : decode cX4_settleBoast 25 = .ok (.istore_n 3, 1) := by decide +kernel
theorem dX4_settleBoast_26 : decode cX4_settleBoast 26 = .ok (.aload_n 0, 1) := by decide +kernel
theorem dX4_settleBoast_27 : decode cX4_settleBoast 27 = .ok (.getfield 15, 3) := by decide +kernel
theorem dX4_settleBoast_30 : decode cX4_settleBoast 30 = .ok (.iload_n 3, 1) := by decide +kernel
theorem dX4_settleBoast_31 : decode cX4_settleBoast 31 = .ok (.dup2, 1) := by decide +kernel
theorem dX4_settleBoast_32 : decode cX4_settleBoast 32 = .ok (.iaload, 1) := by decide +kernel
theorem dX4_settleBoast_33 : decode cX4_settleBoast 33 = .ok (.iconst 1, 1) := by decide +kernel
theorem dX4_settleBoast_34 : decode cX4_settleBoast 34 = .ok (.iadd, 1) := by decide +kernel
theorem dX4_settleBoast_35 : decode cX4_settleBoast 35 = .ok (.iastore, 1) := by decide +kernel
theorem dX4_settleBoast_36 : decode cX4_settleBoast 36 = .ok (.aload_n 0, 1) := by decide +kernel
theorem dX4_settleBoast_37 : decode cX4_settleBoast 37 = .ok (.getfield 33, 3) := by decide +kernel
theorem dX4_settleBoast_40 : decode cX4_settleBoast 40 = .ok (.iload_n 2, 1) := by decide +kernel
theorem dX4_settleBoast_41 : decode cX4_settleBoast 41 = .ok (.bipush (-5), 2) := by decide +kernel
theorem dX4_settleBoast_43 : decode cX4_settleBoast 43 = .ok (.iastore, 1) := by decide +kernel
theorem dX4_settleBoast_44 : decode cX4_settleBoast 44 = .ok (.iload_n 3, 1) := by decide +kernel
theorem dX4_settleBoast_45 : decode cX4_settleBoast 45 = .ok (.ireturn, 1) := by decide +kernel
set_option maxRecDepth 20000 in
theorem ggX4_hit_X4_quotient : GoodIn wsX4_hit wsX4_quotient := goodIn_r _ [12] (by decide +kernel) (by decide +kernel)
set_option maxRecDepth 20000 in
theorem gX4_hit_X4_quotient : GoodIn wsX4_hit (va_wsS RX4 82 yX4_quotient wsX4_quotient) := goodIn_app (goodIn_of _ (by decide +kernel)) ggX4_hit_X4_quotient
set_option maxRecDepth 20000 in
theorem ggX4_hit_X4_settleSmashes : GoodIn wsX4_hit wsX4_settleSmashes := goodIn_r _ [16, 3, 17, 18, 19, 11, 20, 21, 22, 23, 24, 25, 26, 27, 28, 29, 30, 31, 32, 33, 42, 43, 44, 45, 46, 47, 48, 49, 50, 51, 52, 53, 54] (by decide +kernel) (by decide +kernel)
set_option maxRecDepth 20000 in
theorem gX4_hit_X4_settleSmashes : GoodIn wsX4_hit (wsV RX4 91 RX4 yX4_settleSmashes wsX4_settleSmashes) := goodIn_app (goodIn_of _ (by decide +kernel)) ggX4_hit_X4_settleSmashes
set_option maxRecDepth 20000 in
theorem ggX4_hit_X4_fallIfWorn : GoodIn wsX4_hit wsX4_fallIfWorn := goodIn_r _ [37, 28, 8, 42, 43, 44, 45, 46, 47, 48, 49, 50, 51, 52, 53, 54] (by decide +kernel) (by decide +kernel)
set_option maxRecDepth 20000 in
theorem gX4_hit_X4_fallIfWorn : GoodIn wsX4_hit (wsV RX4 95 RX4 yX4_fallIfWorn wsX4_fallIfWorn) := goodIn_app (goodIn_of _ (by decide +kernel)) ggX4_hit_X4_fallIfWorn
set_option maxRecDepth 20000 in
theorem ggX4_hit_X4_outcome : GoodIn wsX4_hit wsX4_outcome := goodIn_r _ [41, 28, 42, 43, 44, 45, 46, 47, 48, 49, 50, 51, 52, 53, 54] (by decide +kernel) (by decide +kernel)
set_option maxRecDepth 20000 in
theorem gX4_hit_X4_outcome : GoodIn wsX4_hit (wsV RX4 99 RX4 yX4_outcome wsX4_outcome) := goodIn_app (goodIn_of _ (by decide +kernel)) ggX4_hit_X4_outcome
theorem dX4_hit_0 : decode cX4_hit 0 = .ok (.iload_n 3, 1) := by decide +kernel
theorem dX4_hit_1 : decode cX4_hit 1 = .ok (.aload_n 0, 1) := by decide +kernel
theorem dX4_hit_2 : decode cX4_hit 2 = .ok (.getfield 21, 3) := by decide +kernel
theorem dX4_hit_5 : decode cX4_hit 5 = .ok (.iload_n 1, 1) := by decide +kernel
theorem dX4_hit_6 : decode cX4_hit 6 = .ok (.iaload, 1) := by decide +kernel
theorem dX4_hit_7 : decode cX4_hit 7 = .ok (.imul, 1) := by decide +kernel
theorem dX4_hit_8 : decode cX4_hit 8 = .ok (.aload_n 0, 1) := by decide +kernel
theorem dX4_hit_9 : decode cX4_hit 9 = .ok (.getfield 21, 3) := by decide +kernel
theorem dX4_hit_12 : decode cX4_hit 12 = .ok (.iload_n 2, 1) := by decide +kernel
theorem dX4_hit_13 : decode cX4_hit 13 = .ok (.iaload, 1) := by decide +kernel
theorem dX4_hit_14 : decode cX4_hit 14 = .ok (.invokestatic 82, 3) := by decide +kernel
theorem dX4_hit_17 : decode cX4_hit 17 = .ok (.istore 4, 2) := by decide +kernel
theorem dX4_hit_19 : decode cX4_hit 19 = .ok (.iload_n 3, 1) := by decide +kernel
theorem dX4_hit_20 : decode cX4_hit 20 = .ok (.aload_n 0, 1) := by decide +kernel
theorem dX4_hit_21 : decode cX4_hit 21 = .ok (.getfield 21, 3) := by decide +kernel
theorem dX4_hit_24 : decode cX4_hit 24 = .ok (.iload_n 2, 1) := by decide +kernel
theorem dX4_hit_25 : decode cX4_hit 25 = .ok (.iaload, 1) := by decide +kernel
theorem dX4_hit_26 : decode cX4_hit 26 = .ok (.imul, 1) := by decide +kernel
theorem dX4_hit_27 : decode cX4_hit 27 = .ok (.iconst 2, 1) := by decide +kernel
theorem dX4_hit_28 : decode cX4_hit 28 = .ok (.aload_n 0, 1) := by decide +kernel
theorem dX4_hit_29 : decode cX4_hit 29 = .ok (.getfield 21, 3) := by decide +kernel
theorem dX4_hit_32 : decode cX4_hit 32 = .ok (.iload_n 1, 1) := by decide +kernel
theorem dX4_hit_33 : decode cX4_hit 33 = .ok (.iaload, 1) := by decide +kernel
theorem dX4_hit_34 : decode cX4_hit 34 = .ok (.imul, 1) := by decide +kernel
theorem dX4_hit_35 : decode cX4_hit 35 = .ok (.invokestatic 82, 3) := by decide +kernel
theorem dX4_hit_38 : decode cX4_hit 38 = .ok (.istore 5, 2) := by decide +kernel
theorem dX4_hit_40 : decode cX4_hit 40 = .ok (.aload_n 0, 1) := by decide +kernel
theorem dX4_hit_41 : decode cX4_hit 41 = .ok (.dup, 1) := by decide +kernel
theorem dX4_hit_42 : decode cX4_hit 42 = .ok (.getfield 49, 3) := by decide +kernel
theorem dX4_hit_45 : decode cX4_hit 45 = .ok (.iconst 1, 1) := by decide +kernel
theorem dX4_hit_46 : decode cX4_hit 46 = .ok (.iadd, 1) := by decide +kernel
theorem dX4_hit_47 : decode cX4_hit 47 = .ok (.putfield 49, 3) := by decide +kernel
theorem dX4_hit_50 : decode cX4_hit 50 = .ok (.aload_n 0, 1) := by decide +kernel
theorem dX4_hit_51 : decode cX4_hit 51 = .ok (.getfield 24, 3) := by decide +kernel
theorem dX4_hit_54 : decode cX4_hit 54 = .ok (.iload_n 2, 1) := by decide +kernel
theorem dX4_hit_55 : decode cX4_hit 55 = .ok (.aload_n 0, 1) := by decide +kernel
theorem dX4_hit_56 : decode cX4_hit 56 = .ok (.getfield 24, 3) := by decide +kernel
theorem dX4_hit_59 : decode cX4_hit 59 = .ok (.iload_n 2, 1) := by decide +kernel
theorem dX4_hit_60 : decode cX4_hit 60 = .ok (.iaload, 1) := by decide +kernel
theorem dX4_hit_61 : decode cX4_hit 61 = .ok (.iload 4, 2) := by decide +kernel
theorem dX4_hit_63 : decode cX4_hit 63 = .ok (.iadd, 1) := by decide +kernel
theorem dX4_hit_64 : decode cX4_hit 64 = .ok (.bipush 100, 2) := by decide +kernel
theorem dX4_hit_66 : decode cX4_hit 66 = .ok (.invokestatic 86, 3) := by decide +kernel
theorem dX4_hit_69 : decode cX4_hit 69 = .ok (.iastore, 1) := by decide +kernel
theorem dX4_hit_70 : decode cX4_hit 70 = .ok (.aload_n 0, 1) := by decide +kernel
theorem dX4_hit_71 : decode cX4_hit 71 = .ok (.getfield 24, 3) := by decide +kernel
theorem dX4_hit_74 : decode cX4_hit 74 = .ok (.iload_n 1, 1) := by decide +kernel
theorem dX4_hit_75 : decode cX4_hit 75 = .ok (.aload_n 0, 1) := by decide +kernel
theorem dX4_hit_76 : decode cX4_hit 76 = .ok (.getfield 24, 3) := by decide +kernel
theorem dX4_hit_79 : decode cX4_hit 79 = .ok (.iload_n 1, 1) := by decide +kernel
theorem dX4_hit_80 : decode cX4_hit 80 = .ok (.iaload, 1) := by decide +kernel
theorem dX4_hit_81 : decode cX4_hit 81 = .ok (.iload 5, 2) := by decide +kernel
theorem dX4_hit_83 : decode cX4_hit 83 = .ok (.iadd, 1) := by decide +kernel
theorem dX4_hit_84 : decode cX4_hit 84 = .ok (.bipush 100, 2) := by decide +kernel
theorem dX4_hit_86 : decode cX4_hit 86 = .ok (.invokestatic 86, 3) := by decide +kernel
theorem dX4_hit_89 : decode cX4_hit 89 = .ok (.iastore, 1) := by decide +kernel
theorem dX4_hit_90 : decode cX4_hit 90 = .ok (.aload_n 0, 1) := by decide +kernel
theorem dX4_hit_91 : decode cX4_hit 91 = .ok (.getfield 27, 3) := by decide +kernel
theorem dX4_hit_94 : decode cX4_hit 94 = .ok (.iload_n 1, 1) := by decide +kernel
theorem dX4_hit_95 : decode cX4_hit 95 = .ok (.aload_n 0, 1) := by decide +kernel
theorem dX4_hit_96 : decode cX4_hit 96 = .ok (.getfield 27, 3) := by decide +kernel
theorem dX4_hit_99 : decode cX4_hit 99 = .ok (.iload_n 1, 1) := by decide +kernel
theorem dX4_hit_100 : decode cX4_hit 100 = .ok (.iaload, 1) := by decide +kernel
end
section
theorem dX4_hit_101 : decode cX4_hit 101 = .ok (.iload_n 3, 1) := by decide +kernel
theorem dX4_hit_102 : decode cX4_hit 102 = .ok (.bipush 6, 2) := by decide +kernel
theorem dX4_hit_104 : decode cX4_hit 104 = .ok (.if_icmp .le 7, 3) := by decide +kernel
theorem dX4_hit_107 : decode cX4_hit 107 = .ok (.iconst 2, 1) := by decide +kernel
theorem dX4_hit_108 : decode cX4_hit 108 = .ok (.goto 4, 3) := by decide +kernel
theorem dX4_hit_111 : decode cX4_hit 111 = .ok (.iconst 1, 1) := by decide +kernel
theorem dX4_hit_112 : decode cX4_hit 112 = .ok (.iadd, 1) := by decide +kernel
theorem dX4_hit_113 : decode cX4_hit 113 = .ok (.bipush 20, 2) := by decide +kernel
theorem dX4_hit_115 : decode cX4_hit 115 = .ok (.invokestatic 86, 3) := by decide +kernel
theorem dX4_hit_118 : decode cX4_hit 118 = .ok (.iastore, 1) := by decide +kernel
theorem dX4_hit_119 : decode cX4_hit 119 = .ok (.aload_n 0, 1) := by decide +kernel
theorem dX4_hit_120 : decode cX4_hit 120 = .ok (.getfield 27, 3) := by decide +kernel
theorem dX4_hit_123 : decode cX4_hit 123 = .ok (.iload_n 2, 1) := by decide +kernel
theorem dX4_hit_124 : decode cX4_hit 124 = .ok (.aload_n 0, 1) := by decide +kernel
theorem dX4_hit_125 : decode cX4_hit 125 = .ok (.getfield 27, 3) := by decide +kernel
theorem dX4_hit_128 : decode cX4_hit 128 = .ok (.iload_n 2, 1) := by decide +kernel
theorem dX4_hit_129 : decode cX4_hit 129 = .ok (.iaload, 1) := by decide +kernel
theorem dX4_hit_130 : decode cX4_hit 130 = .ok (.iconst 1, 1) := by decide +kernel
theorem dX4_hit_131 : decode cX4_hit 131 = .ok (.iadd, 1) := by decide +kernel
theorem dX4_hit_132 : decode cX4_hit 132 = .ok (.bipush 20, 2) := by decide +kernel
theorem dX4_hit_134 : decode cX4_hit 134 = .ok (.invokestatic 86, 3) := by decide +kernel
theorem dX4_hit_137 : decode cX4_hit 137 = .ok (.iastore, 1) := by decide +kernel
theorem dX4_hit_138 : decode cX4_hit 138 = .ok (.aload_n 0, 1) := by decide +kernel
theorem dX4_hit_139 : decode cX4_hit 139 = .ok (.iload_n 1, 1) := by decide +kernel
theorem dX4_hit_140 : decode cX4_hit 140 = .ok (.iload_n 2, 1) := by decide +kernel
theorem dX4_hit_141 : decode cX4_hit 141 = .ok (.invokevirtual 91, 3) := by decide +kernel
theorem dX4_hit_144 : decode cX4_hit 144 = .ok (.aload_n 0, 1) := by decide +kernel
theorem dX4_hit_145 : decode cX4_hit 145 = .ok (.iload_n 1, 1) := by decide +kernel
theorem dX4_hit_146 : decode cX4_hit 146 = .ok (.invokevirtual 95, 3) := by decide +kernel
theorem dX4_hit_149 : decode cX4_hit 149 = .ok (.aload_n 0, 1) := by decide +kernel
theorem dX4_hit_150 : decode cX4_hit 150 = .ok (.iload_n 2, 1) := by decide +kernel
theorem dX4_hit_151 : decode cX4_hit 151 = .ok (.invokevirtual 95, 3) := by decide +kernel
theorem dX4_hit_154 : decode cX4_hit 154 = .ok (.aload_n 0, 1) := by decide +kernel
theorem dX4_hit_155 : decode cX4_hit 155 = .ok (.iload_n 1, 1) := by decide +kernel
theorem dX4_hit_156 : decode cX4_hit 156 = .ok (.iconst 1, 1) := by decide +kernel
theorem dX4_hit_157 : decode cX4_hit 157 = .ok (.iconst 4, 1) := by decide +kernel
theorem dX4_hit_158 : decode cX4_hit 158 = .ok (.invokevirtual 99, 3) := by decide +kernel
theorem dX4_hit_161 : decode cX4_hit 161 = .ok (.aload_n 0, 1) := by decide +kernel
theorem dX4_hit_162 : decode cX4_hit 162 = .ok (.iload_n 2, 1) := by decide +kernel
theorem dX4_hit_163 : decode cX4_hit 163 = .ok (.iconst 2, 1) := by decide +kernel
theorem dX4_hit_164 : decode cX4_hit 164 = .ok (.bipush 8, 2) := by decide +kernel
theorem dX4_hit_166 : decode cX4_hit 166 = .ok (.invokevirtual 99, 3) := by decide +kernel
theorem dX4_hit_169 : decode cX4_hit 169 = .ok (.iadd, 1) := by decide +kernel
theorem dX4_hit_170 : decode cX4_hit 170 = .ok (.ireturn, 1) := by decide +kernel
set_option maxRecDepth 20000 in
theorem ggX4_fight_X4_areInPlay : GoodIn wsX4_fight wsX4_areInPlay := goodIn_r _ [12, 13, 64, 65, 66, 67, 68, 69, 70, 71, 72, 73, 74, 75, 76] (by decide +kernel) (by decide +kernel)
set_option maxRecDepth 20000 in
theorem gX4_fight_X4_areInPlay : GoodIn wsX4_fight (wsV RX4 71 RX4 yX4_areInPlay wsX4_areInPlay) := goodIn_app (goodIn_of _ (by decide +kernel)) ggX4_fight_X4_areInPlay
set_option maxRecDepth 20000 in
theorem ggX4_fight_X0_swing : GoodIn wsX4_fight wsX0_swing := goodIn_r _ [18, 19, 20, 21, 17, 22, 23, 24, 77] (by decide +kernel) (by decide +kernel)
set_option maxRecDepth 20000 in
theorem gX4_fight_X0_swing : GoodIn wsX4_fight (wsV RX4 106 RX0 yX0_swing wsX0_swing) := goodIn_app (goodIn_of _ (by decide +kernel)) ggX4_fight_X0_swing
set_option maxRecDepth 20000 in
theorem ggX4_fight_X4_hit : GoodIn wsX4_fight wsX4_hit := goodIn_r _ [28, 29, 30, 31, 1, 2, 3, 4, 32, 33, 34, 11, 35, 36, 37, 38, 39, 40, 41, 42, 43, 44, 45, 46, 47, 48, 49, 50, 13, 51, 52, 53, 54, 55, 56, 57, 58, 59, 60, 61, 62, 63, 64, 65, 66, 67, 68, 69, 70, 71, 72, 73, 74, 75, 76] (by decide +kernel) (by decide +kernel)
set_option maxRecDepth 20000 in
theorem gX4_fight_X4_hit : GoodIn wsX4_fight (wsV RX4 112 RX4 yX4_hit wsX4_hit) := goodIn_app (goodIn_of _ (by decide +kernel)) ggX4_fight_X4_hit
theorem dX4_fight_0 : decode cX4_fight 0 = .ok (.iload_n 1, 1) := by decide +kernel
theorem dX4_fight_1 : decode cX4_fight 1 = .ok (.iload_n 2, 1) := by decide +kernel
theorem dX4_fight_2 : decode cX4_fight 2 = .ok (.invokestatic 86, 3) := by decide +kernel
theorem dX4_fight_5 : decode cX4_fight 5 = .ok (.istore 4, 2) := by decide +kernel
theorem dX4_fight_7 : decode cX4_fight 7 = .ok (.iload_n 1, 1) := by decide +kernel
theorem dX4_fight_8 : decode cX4_fight 8 = .ok (.iload_n 2, 1) := by decide +kernel
theorem dX4_fight_9 : decode cX4_fight 9 = .ok (.invokestatic 103, 3) := by decide +kernel
theorem dX4_fight_12 : decode cX4_fight 12 = .ok (.istore 5, 2) := by decide +kernel
theorem dX4_fight_14 : decode cX4_fight 14 = .ok (.iconst 0, 1) := by decide +kernel
theorem dX4_fight_15 : decode cX4_fight 15 = .ok (.istore 6, 2) := by decide +kernel
theorem dX4_fight_17 : decode cX4_fight 17 = .ok (.iload 6, 2) := by decide +kernel
theorem dX4_fight_19 : decode cX4_fight 19 = .ok (.bipush 20, 2) := by decide +kernel
theorem dX4_fight_21 : decode cX4_fight 21 = .ok (.if_icmp .ge 45, 3) := by decide +kernel
theorem dX4_fight_24 : decode cX4_fight 24 = .ok (.aload_n 0, 1) := by decide +kernel
theorem dX4_fight_25 : decode cX4_fight 25 = .ok (.iload 4, 2) := by decide +kernel
theorem dX4_fight_27 : decode cX4_fight 27 = .ok (.iload 5, 2) := by decide +kernel
theorem dX4_fight_29 : decode cX4_fight 29 = .ok (.invokevirtual 71, 3) := by decide +kernel
theorem dX4_fight_32 : decode cX4_fight 32 = .ok (.ifCond .eq 34, 3) := by decide +kernel
theorem dX4_fight_35 : decode cX4_fight 35 = .ok (.aload_n 0, 1) := by decide +kernel
theorem dX4_fight_36 : decode cX4_fight 36 = .ok (.iload 4, 2) := by decide +kernel
theorem dX4_fight_38 : decode cX4_fight 38 = .ok (.iload 5, 2) := by decide +kernel
theorem dX4_fight_40 : decode cX4_fight 40 = .ok (.aload_n 3, 1) := by decide +kernel
theorem dX4_fight_41 : decode cX4_fight 41 = .ok (.invokevirtual 106, 3) := by decide +kernel
theorem dX4_fight_44 : decode cX4_fight 44 = .ok (.invokevirtual 112, 3) := by decide +kernel
theorem dX4_fight_47 : decode cX4_fight 47 = .ok (.pop, 1) := by decide +kernel
theorem dX4_fight_48 : decode cX4_fight 48 = .ok (.iload 5, 2) := by decide +kernel
theorem dX4_fight_50 : decode cX4_fight 50 = .ok (.istore 7, 2) := by decide +kernel
theorem dX4_fight_52 : decode cX4_fight 52 = .ok (.iload 4, 2) := by decide +kernel
theorem dX4_fight_54 : decode cX4_fight 54 = .ok (.istore 5, 2) := by decide +kernel
theorem dX4_fight_56 : decode cX4_fight 56 = .ok (.iload 7, 2) := by decide +kernel
theorem dX4_fight_58 : decode cX4_fight 58 = .ok (.istore 4, 2) := by decide +kernel
theorem dX4_fight_60 : decode cX4_fight 60 = .ok (.iinc 6 1, 3) := by decide +kernel
theorem dX4_fight_63 : decode cX4_fight 63 = .ok (.goto (-46), 3) := by decide +kernel
theorem dX4_fight_66 : decode cX4_fight 66 = .ok (.iload 6, 2) := by decide +kernel
theorem dX4_fight_68 : decode cX4_fight 68 = .ok (.ireturn, 1) := by decide +kernel
set_option maxRecDepth 20000 in
theorem ggX4_settleSmashes_X4_crush : GoodIn wsX4_settleSmashes wsX4_crush := goodIn_r _ [6, 7, 8, 9, 10, 5, 11, 12, 13, 14, 20, 21, 22, 23, 24, 25, 26, 27, 28, 29, 30, 31, 32] (by decide +kernel) (by decide +kernel)
set_option maxRecDepth 20000 in
theorem gX4_settleSmashes_X4_crush : GoodIn wsX4_settleSmashes (wsV RX4 115 RX4 yX4_crush wsX4_crush) := goodIn_app (goodIn_of _ (by decide +kernel)) ggX4_settleSmashes_X4_crush
set_option maxRecDepth 20000 in
theorem ggX4_settleSmashes_X4_inherit : GoodIn wsX4_settleSmashes wsX4_inherit := goodIn_r _ [18, 12, 19, 8, 9, 10, 5, 11, 13, 14, 20, 21, 22, 23, 24, 25, 26, 27, 28, 29, 30, 31, 32] (by decide +kernel) (by decide +kernel)
set_option maxRecDepth 20000 in
theorem gX4_settleSmashes_X4_inherit : GoodIn wsX4_settleSmashes (wsV RX4 118 RX4 yX4_inherit wsX4_inherit) := goodIn_app (goodIn_of _ (by decide +kernel)) ggX4_settleSmashes_X4_inherit
theorem dX4_settleSmashes_0 : decode cX4_settleSmashes 0 = .ok (.aload_n 0, 1) := by decide +kernel
theorem dX4_settleSmashes_1 : decode cX4_settleSmashes 1 = .ok (.getfield 24, 3) := by decide +kernel
theorem dX4_settleSmashes_4 : decode cX4_settleSmashes 4 = .ok (.iload_n 1, 1) := by decide +kernel
theorem dX4_settleSmashes_5 : decode cX4_settleSmashes 5 = .ok (.iaload, 1) := by decide +kernel
theorem dX4_settleSmashes_6 : decode cX4_settleSmashes 6 = .ok (.bipush 100, 2) := by decide +kernel
theorem dX4_settleSmashes_8 : decode cX4_settleSmashes 8 = .ok (.if_icmp .ne 7, 3) := by decide +kernel
theorem dX4_settleSmashes_11 : decode cX4_settleSmashes 11 = .ok (.iconst 1, 1) := by decide +kernel
theorem dX4_settleSmashes_12 : decode cX4_settleSmashes 12 = .ok (.goto 4, 3) := by decide +kernel
theorem dX4_settleSmashes_15 : decode cX4_settleSmashes 15 = .ok (.iconst 0, 1) := by decide +kernel
theorem dX4_settleSmashes_16 : decode cX4_settleSmashes 16 = .ok (.istore_n 3, 1) := by decide +kernel
theorem dX4_settleSmashes_17 : decode cX4_settleSmashes 17 = .ok (.aload_n 0, 1) := by decide +kernel
theorem dX4_settleSmashes_18 : decode cX4_settleSmashes 18 = .ok (.getfield 24, 3) := by decide +kernel
theorem dX4_settleSmashes_21 : decode cX4_settleSmashes 21 = .ok (.iload_n 2, 1) := by decide +kernel
theorem dX4_settleSmashes_22 : decode cX4_settleSmashes 22 = .ok (.iaload, 1) := by decide +kernel
theorem dX4_settleSmashes_23 : decode cX4_settleSmashes 23 = .ok (.bipush 100, 2) := by decide +kernel
theorem dX4_settleSmashes_25 : decode cX4_settleSmashes 25 = .ok (.if_icmp .ne 7, 3) := by decide +kernel
theorem dX4_settleSmashes_28 : decode cX4_settleSmashes 28 = .ok (.iconst 1, 1) := by decide +kernel
theorem dX4_settleSmashes_29 : decode cX4_settleSmashes 29 = .ok (.goto 4, 3) := by decide +kernel
theorem dX4_settleSmashes_32 : decode cX4_settleSmashes 32 = .ok (.iconst 0, 1) := by decide +kernel
theorem dX4_settleSmashes_33 : decode cX4_settleSmashes 33 = .ok (.istore 4, 2) := by decide +kernel
theorem dX4_settleSmashes_35 : decode cX4_settleSmashes 35 = .ok (.iload_n 3, 1) := by decide +kernel
theorem dX4_settleSmashes_36 : decode cX4_settleSmashes 36 = .ok (.ifCond .eq 23, 3) := by decide +kernel
theorem dX4_settleSmashes_39 : decode cX4_settleSmashes 39 = .ok (.iload 4, 2) := by decide +kernel
theorem dX4_settleSmashes_41 : decode cX4_settleSmashes 41 = .ok (.ifCond .eq 18, 3) := by decide +kernel
theorem dX4_settleSmashes_44 : decode cX4_settleSmashes 44 = .ok (.aload_n 0, 1) := by decide +kernel
theorem dX4_settleSmashes_45 : decode cX4_settleSmashes 45 = .ok (.iload_n 1, 1) := by decide +kernel
theorem dX4_settleSmashes_46 : decode cX4_settleSmashes 46 = .ok (.invokevirtual 115, 3) := by decide +kernel
theorem dX4_settleSmashes_49 : decode cX4_settleSmashes 49 = .ok (.pop, 1) := by decide +kernel
theorem dX4_settleSmashes_50 : decode cX4_settleSmashes 50 = .ok (.aload_n 0, 1) := by decide +kernel
theorem dX4_settleSmashes_51 : decode cX4_settleSmashes 51 = .ok (.iload_n 2, 1) := by decide +kernel
theorem dX4_settleSmashes_52 : decode cX4_settleSmashes 52 = .ok (.invokevirtual 115, 3) := by decide +kernel
theorem dX4_settleSmashes_55 : decode cX4_settleSmashes 55 = .ok (.pop, 1) := by decide +kernel
theorem dX4_settleSmashes_56 : decode cX4_settleSmashes 56 = .ok (.goto 27, 3) := by decide +kernel
theorem dX4_settleSmashes_59 : decode cX4_settleSmashes 59 = .ok (.iload_n 3, 1) := by decide +kernel
theorem dX4_settleSmashes_60 : decode cX4_settleSmashes 60 = .ok (.ifCond .eq 12, 3) := by decide +kernel
theorem dX4_settleSmashes_63 : decode cX4_settleSmashes 63 = .ok (.aload_n 0, 1) := by decide +kernel
theorem dX4_settleSmashes_64 : decode cX4_settleSmashes 64 = .ok (.iload_n 2, 1) := by decide +kernel
theorem dX4_settleSmashes_65 : decode cX4_settleSmashes 65 = .ok (.iload_n 1, 1) := by decide +kernel
theorem dX4_settleSmashes_66 : decode cX4_settleSmashes 66 = .ok (.invokevirtual 118, 3) := by decide +kernel
theorem dX4_settleSmashes_69 : decode cX4_settleSmashes 69 = .ok (.goto 14, 3) := by decide +kernel
theorem dX4_settleSmashes_72 : decode cX4_settleSmashes 72 = .ok (.iload 4, 2) := by decide +kernel
theorem dX4_settleSmashes_74 : decode cX4_settleSmashes 74 = .ok (.ifCond .eq 9, 3) := by decide +kernel
theorem dX4_settleSmashes_77 : decode cX4_settleSmashes 77 = .ok (.aload_n 0, 1) := by decide +kernel
theorem dX4_settleSmashes_78 : decode cX4_settleSmashes 78 = .ok (.iload_n 1, 1) := by decide +kernel
theorem dX4_settleSmashes_79 : decode cX4_settleSmashes 79 = .ok (.iload_n 2, 1) := by decide +kernel
theorem dX4_settleSmashes_80 : decode cX4_settleSmashes 80 = .ok (.invokevirtual 118, 3) := by decide +kernel
theorem dX4_settleSmashes_83 : decode cX4_settleSmashes 83 = .ok (.return_, 1) := by decide +kernel
set_option maxRecDepth 20000 in
theorem ggX4_inherit_X4_takeVictoriesOfSmashed : GoodIn wsX4_inherit wsX4_takeVictoriesOfSmashed := goodIn_r _ [7, 1, 8, 9, 10, 11, 12, 13, 14, 15, 16, 17, 18, 19, 20, 21, 22] (by decide +kernel) (by decide +kernel)
set_option maxRecDepth 20000 in
theorem gX4_inherit_X4_takeVictoriesOfSmashed : GoodIn wsX4_inherit (wsV RX4 79 RX4 yX4_takeVictoriesOfSmashed wsX4_takeVictoriesOfSmashed) := goodIn_app (goodIn_of _ (by decide +kernel)) ggX4_inherit_X4_takeVictoriesOfSmashed
theorem dX4_inherit_0 : decode cX4_inherit 0 = .ok (.aload_n 0, 1) := by decide +kernel
theorem dX4_inherit_1 : decode cX4_inherit 1 = .ok (.getfield 30, 3) := by decide +kernel
theorem dX4_inherit_4 : decode cX4_inherit 4 = .ok (.iload_n 1, 1) := by decide +kernel
theorem dX4_inherit_5 : decode cX4_inherit 5 = .ok (.dup2, 1) := by decide +kernel
theorem dX4_inherit_6 : decode cX4_inherit 6 = .ok (.iaload, 1) := by decide +kernel
theorem dX4_inherit_7 : decode cX4_inherit 7 = .ok (.iconst 1, 1) := by decide +kernel
theorem dX4_inherit_8 : decode cX4_inherit 8 = .ok (.aload_n 0, 1) := by decide +kernel
theorem dX4_inherit_9 : decode cX4_inherit 9 = .ok (.iload_n 2, 1) := by decide +kernel
theorem dX4_inherit_10 : decode cX4_inherit 10 = .ok (.invokevirtual 79, 3) := by decide +kernel
theorem dX4_inherit_13 : decode cX4_inherit 13 = .ok (.iadd, 1) := by decide +kernel
theorem dX4_inherit_14 : decode cX4_inherit 14 = .ok (.iadd, 1) := by decide +kernel
theorem dX4_inherit_15 : decode cX4_inherit 15 = .ok (.iastore, 1) := by decide +kernel
theorem dX4_inherit_16 : decode cX4_inherit 16 = .ok (.aload_n 0, 1) := by decide +kernel
theorem dX4_inherit_17 : decode cX4_inherit 17 = .ok (.getfield 39, 3) := by decide +kernel
theorem dX4_inherit_20 : decode cX4_inherit 20 = .ok (.iload_n 2, 1) := by decide +kernel
theorem dX4_inherit_21 : decode cX4_inherit 21 = .ok (.iload_n 1, 1) := by decide +kernel
theorem dX4_inherit_22 : decode cX4_inherit 22 = .ok (.iastore, 1) := by decide +kernel
theorem dX4_inherit_23 : decode cX4_inherit 23 = .ok (.return_, 1) := by decide +kernel
theorem dX4_takeVictoriesOfSmashed_0 : decode cX4_takeVictoriesOfSmashed 0 = .ok (.aload_n 0, 1) := by decide +kernel
theorem dX4_takeVictoriesOfSmashed_1 : decode cX4_takeVictoriesOfSmashed 1 = .ok (.getfield 30, 3) := by decide +kernel
theorem dX4_takeVictoriesOfSmashed_4 : decode cX4_takeVictoriesOfSmashed 4 = .ok (.iload_n 1, 1) := by decide +kernel
theorem dX4_takeVictoriesOfSmashed_5 : decode cX4_takeVictoriesOfSmashed 5 = .ok (.iaload, 1) := by decide +kernel
theorem dX4_takeVictoriesOfSmashed_6 : decode cX4_takeVictoriesOfSmashed 6 = .ok (.istore_n 2, 1) := by decide +kernel
theorem dX4_takeVictoriesOfSmashed_7 : decode cX4_takeVictoriesOfSmashed 7 = .ok (.aload_n 0, 1) := by decide +kernel
theorem dX4_takeVictoriesOfSmashed_8 : decode cX4_takeVictoriesOfSmashed 8 = .ok (.getfield 30, 3) := by decide +kernel
theorem dX4_takeVictoriesOfSmashed_11 : decode cX4_takeVictoriesOfSmashed 11 = .ok (.iload_n 1, 1) := by decide +kernel
theorem dX4_takeVictoriesOfSmashed_12 : decode cX4_takeVictoriesOfSmashed 12 = .ok (.iconst 0, 1) := by decide +kernel
theorem dX4_takeVictoriesOfSmashed_13 : decode cX4_takeVictoriesOfSmashed 13 = .ok (.iastore, 1) := by decide +kernel
theorem dX4_takeVictoriesOfSmashed_14 : decode cX4_takeVictoriesOfSmashed 14 = .ok (.aload_n 0, 1) := by decide +kernel
theorem dX4_takeVictoriesOfSmashed_15 : decode cX4_takeVictoriesOfSmashed 15 = .ok (.getfield 33, 3) := by decide +kernel
theorem dX4_takeVictoriesOfSmashed_18 : decode cX4_takeVictoriesOfSmashed 18 = .ok (.iload_n 1, 1) := by decide +kernel
theorem dX4_takeVictoriesOfSmashed_19 : decode cX4_takeVictoriesOfSmashed 19 = .ok (.bipush (-5), 2) := by decide +kernel
theorem dX4_takeVictoriesOfSmashed_21 : decode cX4_takeVictoriesOfSmashed 21 = .ok (.iastore, 1) := by decide +kernel
theorem dX4_takeVictoriesOfSmashed_22 : decode cX4_takeVictoriesOfSmashed 22 = .ok (.aload_n 0, 1) := by decide +kernel
theorem dX4_takeVictoriesOfSmashed_23 : decode cX4_takeVictoriesOfSmashed 23 = .ok (.getfield 36, 3) := by decide +kernel
theorem dX4_takeVictoriesOfSmashed_26 : decode cX4_takeVictoriesOfSmashed 26 = .ok (.iload_n 1, 1) := by decide +kernel
theorem dX4_takeVictoriesOfSmashed_27 : decode cX4_takeVictoriesOfSmashed 27 = .ok (.iconst 2, 1) := by decide +kernel
theorem dX4_takeVictoriesOfSmashed_28 : decode cX4_takeVictoriesOfSmashed 28 = .ok (.iastore, 1) := by decide +kernel
theorem dX4_takeVictoriesOfSmashed_29 : decode cX4_takeVictoriesOfSmashed 29 = .ok (.iload_n 2, 1) := by decide +kernel
theorem dX4_takeVictoriesOfSmashed_30 : decode cX4_takeVictoriesOfSmashed 30 = .ok (.ireturn, 1) := by decide +kernel
theorem dX4_fallIfWorn_0 : decode cX4_fallIfWorn 0 = .ok (.aload_n 0, 1) := by decide +kernel
theorem dX4_fallIfWorn_1 : decode cX4_fallIfWorn 1 = .ok (.getfield 36, 3) := by decide +kernel
theorem dX4_fallIfWorn_4 : decode cX4_fallIfWorn 4 = .ok (.iload_n 1, 1) := by decide +kernel
theorem dX4_fallIfWorn_5 : decode cX4_fallIfWorn 5 = .ok (.iaload, 1) := by decide +kernel
theorem dX4_fallIfWorn_6 : decode cX4_fallIfWorn 6 = .ok (.ifCond .ne 21, 3) := by decide +kernel
theorem dX4_fallIfWorn_9 : decode cX4_fallIfWorn 9 = .ok (.aload_n 0, 1) := by decide +kernel
theorem dX4_fallIfWorn_10 : decode cX4_fallIfWorn 10 = .ok (.getfield 27, 3) := by decide +kernel
theorem dX4_fallIfWorn_13 : decode cX4_fallIfWorn 13 = .ok (.iload_n 1, 1) := by decide +kernel
theorem dX4_fallIfWorn_14 : decode cX4_fallIfWorn 14 = .ok (.iaload, 1) := by decide +kernel
theorem dX4_fallIfWorn_15 : decode cX4_fallIfWorn 15 = .ok (.bipush 20, 2) := by decide +kernel
theorem dX4_fallIfWorn_17 : decode cX4_fallIfWorn 17 = .ok (.if_icmp .ne 10, 3) := by decide +kernel
theorem dX4_fallIfWorn_20 : decode cX4_fallIfWorn 20 = .ok (.aload_n 0, 1) := by decide +kernel
theorem dX4_fallIfWorn_21 : decode cX4_fallIfWorn 21 = .ok (.getfield 36, 3) := by decide +kernel
theorem dX4_fallIfWorn_24 : decode cX4_fallIfWorn 24 = .ok (.iload_n 1, 1) := by decide +kernel
theorem dX4_fallIfWorn_25 : decode cX4_fallIfWorn 25 = .ok (.iconst 1, 1) := by decide +kernel
theorem dX4_fallIfWorn_26 : decode cX4_fallIfWorn 26 = .ok (.iastore, 1) := by decide +kernel
theorem dX4_fallIfWorn_27 : decode cX4_fallIfWorn 27 = .ok (.return_, 1) := by decide +kernel
theorem dX4_outcome_0 : decode cX4_outcome 0 = .ok (.aload_n 0, 1) := by decide +kernel
theorem dX4_outcome_1 : decode cX4_outcome 1 = .ok (.getfield 36, 3) := by decide +kernel
theorem dX4_outcome_4 : decode cX4_outcome 4 = .ok (.iload_n 1, 1) := by decide +kernel
theorem dX4_outcome_5 : decode cX4_outcome 5 = .ok (.iaload, 1) := by decide +kernel
theorem dX4_outcome_6 : decode cX4_outcome 6 = .ok (.iconst 2, 1) := by decide +kernel
theorem dX4_outcome_7 : decode cX4_outcome 7 = .ok (.if_icmp .ne 5, 3) := by decide +kernel
theorem dX4_outcome_10 : decode cX4_outcome 10 = .ok (.iload_n 2, 1) := by decide +kernel
theorem dX4_outcome_11 : decode cX4_outcome 11 = .ok (.ireturn, 1) := by decide +kernel
theorem dX4_outcome_12 : decode cX4_outcome 12 = .ok (.aload_n 0, 1) := by decide +kernel
theorem dX4_outcome_13 : decode cX4_outcome 13 = .ok (.getfield 36, 3) := by decide +kernel
theorem dX4_outcome_16 : decode cX4_outcome 16 = .ok (.iload_n 1, 1) := by decide +kernel
theorem dX4_outcome_17 : decode cX4_outcome 17 = .ok (.iaload, 1) := by decide +kernel
theorem dX4_outcome_18 : decode cX4_outcome 18 = .ok (.iconst 1, 1) := by decide +kernel
theorem dX4_outcome_19 : decode cX4_outcome 19 = .ok (.if_icmp .ne 7, 3) := by decide +kernel
theorem dX4_outcome_22 : decode cX4_outcome 22 = .ok (.iload_n 3, 1) := by decide +kernel
theorem dX4_outcome_23 : decode cX4_outcome 23 = .ok (.goto 4, 3) := by decide +kernel
theorem dX4_outcome_26 : decode cX4_outcome 26 = .ok (.iconst 0, 1) := by decide +kernel
theorem dX4_outcome_27 : decode cX4_outcome 27 = .ok (.ireturn, 1) := by decide +kernel
theorem dX4_quotient_0 : decode cX4_quotient 0 = .ok (.iload_n 1, 1) := by decide +kernel
theorem dX4_quotient_1 : decode cX4_quotient 1 = .ok (.iconst 1, 1) := by decide +kernel
theorem dX4_quotient_2 : decode cX4_quotient 2 = .ok (.if_icmp .ge 7, 3) := by decide +kernel
theorem dX4_quotient_5 : decode cX4_quotient 5 = .ok (.iconst 0, 1) := by decide +kernel
theorem dX4_quotient_6 : decode cX4_quotient 6 = .ok (.goto 6, 3) := by decide +kernel
theorem dX4_quotient_9 : decode cX4_quotient 9 = .ok (.iload_n 0, 1) := by decide +kernel
theorem dX4_quotient_10 : decode cX4_quotient 10 = .ok (.iload_n 1, 1) := by decide +kernel
theorem dX4_quotient_11 : decode cX4_quotient 11 = .ok (.idiv, 1) := by decide +kernel
theorem dX4_quotient_12 : decode cX4_quotient 12 = .ok (.ireturn, 1) := by decide +kernel
theorem dX4_areInPlay_0 : decode cX4_areInPlay 0 = .ok (.aload_n 0, 1) := by decide +kernel
theorem dX4_areInPlay_1 : decode cX4_areInPlay 1 = .ok (.getfield 36, 3) := by decide +kernel
theorem dX4_areInPlay_4 : decode cX4_areInPlay 4 = .ok (.iload_n 1, 1) := by decide +kernel
theorem dX4_areInPlay_5 : decode cX4_areInPlay 5 = .ok (.iaload, 1) := by decide +kernel
theorem dX4_areInPlay_6 : decode cX4_areInPlay 6 = .ok (.ifCond .ne 16, 3) := by decide +kernel
theorem dX4_areInPlay_9 : decode cX4_areInPlay 9 = .ok (.aload_n 0, 1) := by decide +kernel
theorem dX4_areInPlay_10 : decode cX4_areInPlay 10 = .ok (.getfield 36, 3) := by decide +kernel
theorem dX4_areInPlay_13 : decode cX4_areInPlay 13 = .ok (.iload_n 2, 1) := by decide +kernel
theorem dX4_areInPlay_14 : decode cX4_areInPlay 14 = .ok (.iaload, 1) := by decide +kernel
theorem dX4_areInPlay_15 : decode cX4_areInPlay 15 = .ok (.ifCond .ne 7, 3) := by decide +kernel
theorem dX4_areInPlay_18 : decode cX4_areInPlay 18 = .ok (.iconst 1, 1) := by decide +kernel
theorem dX4_areInPlay_19 : decode cX4_areInPlay 19 = .ok (.goto 4, 3) := by decide +kernel
theorem dX4_areInPlay_22 : decode cX4_areInPlay 22 = .ok (.iconst 0, 1) := by decide +kernel
theorem dX4_areInPlay_23 : decode cX4_areInPlay 23 = .ok (.ireturn, 1) := by decide +kernel
theorem dX4_isOf_0 : decode cX4_isOf 0 = .ok (.iload_n 2, 1) := by decide +kernel
theorem dX4_isOf_1 : decode cX4_isOf 1 = .ok (.iconst (-1), 1) := by decide +kernel
theorem dX4_isOf_2 : decode cX4_isOf 2 = .ok (.if_icmp .eq 13, 3) := by decide +kernel
theorem dX4_isOf_5 : decode cX4_isOf 5 = .ok (.aload_n 0, 1) := by decide +kernel
theorem dX4_isOf_6 : decode cX4_isOf 6 = .ok (.getfield 18, 3) := by decide +kernel
theorem dX4_isOf_9 : decode cX4_isOf 9 = .ok (.iload_n 1, 1) := by decide +kernel
theorem dX4_isOf_10 : decode cX4_isOf 10 = .ok (.iaload, 1) := by decide +kernel
theorem dX4_isOf_11 : decode cX4_isOf 11 = .ok (.iload_n 2, 1) := by decide +kernel
theorem dX4_isOf_12 : decode cX4_isOf 12 = .ok (.if_icmp .ne 7, 3) := by decide +kernel
theorem dX4_isOf_15 : decode cX4_isOf 15 = .ok (.iconst 1, 1) := by decide +kernel
theorem dX4_isOf_16 : decode cX4_isOf 16 = .ok (.goto 4, 3) := by decide +kernel
theorem dX4_isOf_19 : decode cX4_isOf 19 = .ok (.iconst 0, 1) := by decide +kernel
theorem dX4_isOf_20 : decode cX4_isOf 20 = .ok (.ireturn, 1) := by decide +kernel
set_option maxRecDepth 20000 in
theorem ggX4_conkersBeing_X4_isOf : GoodIn wsX4_conkersBeing wsX4_isOf := goodIn_r _ [7, 8, 9, 10, 11, 12, 13, 14, 15, 16, 17, 18, 19, 20, 21] (by decide +kernel) (by decide +kernel)
set_option maxRecDepth 20000 in
theorem gX4_conkersBeing_X4_isOf : GoodIn wsX4_conkersBeing (wsV RX4 121 RX4 yX4_isOf wsX4_isOf) := goodIn_app (goodIn_of _ (by decide +kernel)) ggX4_conkersBeing_X4_isOf
theorem dX4_conkersBeing_0 : decode cX4_conkersBeing 0 = .ok (.iconst 0, 1) := by decide +kernel
theorem dX4_conkersBeing_1 : decode cX4_conkersBeing 1 = .ok (.istore_n 3, 1) := by decide +kernel
theorem dX4_conkersBeing_2 : decode cX4_conkersBeing 2 = .ok (.iconst 0, 1) := by decide +kernel
theorem dX4_conkersBeing_3 : decode cX4_conkersBeing 3 = .ok (.istore 4, 2) := by decide +kernel
theorem dX4_conkersBeing_5 : decode cX4_conkersBeing 5 = .ok (.iload 4, 2) := by decide +kernel
theorem dX4_conkersBeing_7 : decode cX4_conkersBeing 7 = .ok (.aload_n 0, 1) := by decide +kernel
theorem dX4_conkersBeing_8 : decode cX4_conkersBeing 8 = .ok (.getfield 42, 3) := by decide +kernel
theorem dX4_conkersBeing_11 : decode cX4_conkersBeing 11 = .ok (.if_icmp .ge 33, 3) := by decide +kernel
theorem dX4_conkersBeing_14 : decode cX4_conkersBeing 14 = .ok (.aload_n 0, 1) := by decide +kernel
theorem dX4_conkersBeing_15 : decode cX4_conkersBeing 15 = .ok (.getfield 36, 3) := by decide +kernel
theorem dX4_conkersBeing_18 : decode cX4_conkersBeing 18 = .ok (.iload 4, 2) := by decide +kernel
theorem dX4_conkersBeing_20 : decode cX4_conkersBeing 20 = .ok (.iaload, 1) := by decide +kernel
theorem dX4_conkersBeing_21 : decode cX4_conkersBeing 21 = .ok (.iload_n 1, 1) := by decide +kernel
theorem dX4_conkersBeing_22 : decode cX4_conkersBeing 22 = .ok (.if_icmp .ne 16, 3) := by decide +kernel
theorem dX4_conkersBeing_25 : decode cX4_conkersBeing 25 = .ok (.aload_n 0, 1) := by decide +kernel
theorem dX4_conkersBeing_26 : decode cX4_conkersBeing 26 = .ok (.iload 4, 2) := by decide +kernel
theorem dX4_conkersBeing_28 : decode cX4_conkersBeing 28 = .ok (.iload_n 2, 1) := by decide +kernel
theorem dX4_conkersBeing_29 : decode cX4_conkersBeing 29 = .ok (.invokevirtual 121, 3) := by decide +kernel
theorem dX4_conkersBeing_32 : decode cX4_conkersBeing 32 = .ok (.ifCond .eq 6, 3) := by decide +kernel
theorem dX4_conkersBeing_35 : decode cX4_conkersBeing 35 = .ok (.iinc 3 1, 3) := by decide +kernel
theorem dX4_conkersBeing_38 : decode cX4_conkersBeing 38 = .ok (.iinc 4 1, 3) := by decide +kernel
theorem dX4_conkersBeing_41 : decode cX4_conkersBeing 41 = .ok (.goto (-36), 3) := by decide +kernel
theorem dX4_conkersBeing_44 : decode cX4_conkersBeing 44 = .ok (.iload_n 3, 1) := by decide +kernel
theorem dX4_conkersBeing_45 : decode cX4_conkersBeing 45 = .ok (.ireturn, 1) := by decide +kernel
set_option maxRecDepth 20000 in
theorem ggX4_victoriesOf_X4_isOf : GoodIn wsX4_victoriesOf wsX4_isOf := goodIn_r _ [7, 8, 9, 10, 11, 12, 13, 14, 15, 16, 17, 18, 19, 20, 21] (by decide +kernel) (by decide +kernel)
set_option maxRecDepth 20000 in
theorem gX4_victoriesOf_X4_isOf : GoodIn wsX4_victoriesOf (wsV RX4 121 RX4 yX4_isOf wsX4_isOf) := goodIn_app (goodIn_of _ (by decide +kernel)) ggX4_victoriesOf_X4_isOf
theorem dX4_victoriesOf_0 : decode cX4_victoriesOf 0 = .ok (.iconst 0, 1) := by decide +kernel
theorem dX4_victoriesOf_1 : decode cX4_victoriesOf 1 = .ok (.istore_n 2, 1) := by decide +kernel
theorem dX4_victoriesOf_2 : decode cX4_victoriesOf 2 = .ok (.iconst 0, 1) := by decide +kernel
theorem dX4_victoriesOf_3 : decode cX4_victoriesOf 3 = .ok (.istore_n 3, 1) := by decide +kernel
theorem dX4_victoriesOf_4 : decode cX4_victoriesOf 4 = .ok (.iload_n 3, 1) := by decide +kernel
theorem dX4_victoriesOf_5 : decode cX4_victoriesOf 5 = .ok (.aload_n 0, 1) := by decide +kernel
theorem dX4_victoriesOf_6 : decode cX4_victoriesOf 6 = .ok (.getfield 42, 3) := by decide +kernel
theorem dX4_victoriesOf_9 : decode cX4_victoriesOf 9 = .ok (.if_icmp .ge 27, 3) := by decide +kernel
theorem dX4_victoriesOf_12 : decode cX4_victoriesOf 12 = .ok (.aload_n 0, 1) := by decide +kernel
theorem dX4_victoriesOf_13 : decode cX4_victoriesOf 13 = .ok (.iload_n 3, 1) := by decide +kernel
theorem dX4_victoriesOf_14 : decode cX4_victoriesOf 14 = .ok (.iload_n 1, 1) := by decide +kernel
theorem dX4_victoriesOf_15 : decode cX4_victoriesOf 15 = .ok (.invokevirtual 121, 3) := by decide +kernel
theorem dX4_victoriesOf_18 : decode cX4_victoriesOf 18 = .ok (.ifCond .eq 12, 3) := by decide +kernel
theorem dX4_victoriesOf_21 : decode cX4_victoriesOf 21 = .ok (.iload_n 2, 1) := by decide +kernel
theorem dX4_victoriesOf_22 : decode cX4_victoriesOf 22 = .ok (.aload_n 0, 1) := by decide +kernel
theorem dX4_victoriesOf_23 : decode cX4_victoriesOf 23 = .ok (.getfield 30, 3) := by decide +kernel
theorem dX4_victoriesOf_26 : decode cX4_victoriesOf 26 = .ok (.iload_n 3, 1) := by decide +kernel
theorem dX4_victoriesOf_27 : decode cX4_victoriesOf 27 = .ok (.iaload, 1) := by decide +kernel
theorem dX4_victoriesOf_28 : decode cX4_victoriesOf 28 = .ok (.iadd, 1) := by decide +kernel
theorem dX4_victoriesOf_29 : decode cX4_victoriesOf 29 = .ok (.istore_n 2, 1) := by decide +kernel
theorem dX4_victoriesOf_30 : decode cX4_victoriesOf 30 = .ok (.iinc 3 1, 3) := by decide +kernel
theorem dX4_victoriesOf_33 : decode cX4_victoriesOf 33 = .ok (.goto (-29), 3) := by decide +kernel
theorem dX4_victoriesOf_36 : decode cX4_victoriesOf 36 = .ok (.iload_n 2, 1) := by decide +kernel
theorem dX4_victoriesOf_37 : decode cX4_victoriesOf 37 = .ok (.ireturn, 1) := by decide +kernel
theorem dX4_conkerToSend_0 : decode cX4_conkerToSend 0 = .ok (.bipush (-5), 2) := by decide +kernel
theorem dX4_conkerToSend_2 : decode cX4_conkerToSend 2 = .ok (.istore_n 2, 1) := by decide +kernel
theorem dX4_conkerToSend_3 : decode cX4_conkerToSend 3 = .ok (.iconst 0, 1) := by decide +kernel
theorem dX4_conkerToSend_4 : decode cX4_conkerToSend 4 = .ok (.istore_n 3, 1) := by decide +kernel
theorem dX4_conkerToSend_5 : decode cX4_conkerToSend 5 = .ok (.iload_n 3, 1) := by decide +kernel
theorem dX4_conkerToSend_6 : decode cX4_conkerToSend 6 = .ok (.aload_n 0, 1) := by decide +kernel
theorem dX4_conkerToSend_7 : decode cX4_conkerToSend 7 = .ok (.getfield 42, 3) := by decide +kernel
theorem dX4_conkerToSend_10 : decode cX4_conkerToSend 10 = .ok (.if_icmp .ge 49, 3) := by decide +kernel
theorem dX4_conkerToSend_13 : decode cX4_conkerToSend 13 = .ok (.aload_n 0, 1) := by decide +kernel
theorem dX4_conkerToSend_14 : decode cX4_conkerToSend 14 = .ok (.getfield 36, 3) := by decide +kernel
theorem dX4_conkerToSend_17 : decode cX4_conkerToSend 17 = .ok (.iload_n 3, 1) := by decide +kernel
theorem dX4_conkerToSend_18 : decode cX4_conkerToSend 18 = .ok (.iaload, 1) := by decide +kernel
theorem dX4_conkerToSend_19 : decode cX4_conkerToSend 19 = .ok (.ifCond .ne 34, 3) := by decide +kernel
theorem dX4_conkerToSend_22 : decode cX4_conkerToSend 22 = .ok (.aload_n 0, 1) := by decide +kernel
theorem dX4_conkerToSend_23 : decode cX4_conkerToSend 23 = .ok (.getfield 18, 3) := by decide +kernel
theorem dX4_conkerToSend_26 : decode cX4_conkerToSend 26 = .ok (.iload_n 3, 1) := by decide +kernel
theorem dX4_conkerToSend_27 : decode cX4_conkerToSend 27 = .ok (.iaload, 1) := by decide +kernel
theorem dX4_conkerToSend_28 : decode cX4_conkerToSend 28 = .ok (.iload_n 1, 1) := by decide +kernel
theorem dX4_conkerToSend_29 : decode cX4_conkerToSend 29 = .ok (.if_icmp .ne 24, 3) := by decide +kernel
theorem dX4_conkerToSend_32 : decode cX4_conkerToSend 32 = .ok (.iload_n 2, 1) := by decide +kernel
theorem dX4_conkerToSend_33 : decode cX4_conkerToSend 33 = .ok (.ifCond .lt 18, 3) := by decide +kernel
theorem dX4_conkerToSend_36 : decode cX4_conkerToSend 36 = .ok (.aload_n 0, 1) := by decide +kernel
theorem dX4_conkerToSend_37 : decode cX4_conkerToSend 37 = .ok (.getfield 30, 3) := by decide +kernel
theorem dX4_conkerToSend_40 : decode cX4_conkerToSend 40 = .ok (.iload_n 3, 1) := by decide +kernel
theorem dX4_conkerToSend_41 : decode cX4_conkerToSend 41 = .ok (.iaload, 1) := by decide +kernel
theorem dX4_conkerToSend_42 : decode cX4_conkerToSend 42 = .ok (.aload_n 0, 1) := by decide +kernel
theorem dX4_conkerToSend_43 : decode cX4_conkerToSend 43 = .ok (.getfield 30, 3) := by decide +kernel
theorem dX4_conkerToSend_46 : decode cX4_conkerToSend 46 = .ok (.iload_n 2, 1) := by decide +kernel
theorem dX4_conkerToSend_47 : decode cX4_conkerToSend 47 = .ok (.iaload, 1) := by decide +kernel
theorem dX4_conkerToSend_48 : decode cX4_conkerToSend 48 = .ok (.if_icmp .le 5, 3) := by decide +kernel
theorem dX4_conkerToSend_51 : decode cX4_conkerToSend 51 = .ok (.iload_n 3, 1) := by decide +kernel
theorem dX4_conkerToSend_52 : decode cX4_conkerToSend 52 = .ok (.istore_n 2, 1) := by decide +kernel
theorem dX4_conkerToSend_53 : decode cX4_conkerToSend 53 = .ok (.iinc 3 1, 3) := by decide +kernel
theorem dX4_conkerToSend_56 : decode cX4_conkerToSend 56 = .ok (.goto (-51), 3) := by decide +kernel
theorem dX4_conkerToSend_59 : decode cX4_conkerToSend 59 = .ok (.iload_n 2, 1) := by decide +kernel
theorem dX4_conkerToSend_60 : decode cX4_conkerToSend 60 = .ok (.ireturn, 1) := by decide +kernel
set_option maxRecDepth 20000 in
theorem ggX4_conkerAtRank_X4_conkersAheadOf : GoodIn wsX4_conkerAtRank wsX4_conkersAheadOf := goodIn_r _ [7, 1, 8, 2, 9, 10, 11, 12, 13, 14, 15, 16, 17, 18, 19, 20, 21] (by decide +kernel) (by decide +kernel)
set_option maxRecDepth 20000 in
theorem gX4_conkerAtRank_X4_conkersAheadOf : GoodIn wsX4_conkerAtRank (wsV RX4 124 RX4 yX4_conkersAheadOf wsX4_conkersAheadOf) := goodIn_app (goodIn_of _ (by decide +kernel)) ggX4_conkerAtRank_X4_conkersAheadOf
theorem dX4_conkerAtRank_0 : decode cX4_conkerAtRank 0 = .ok (.iconst 0, 1) := by decide +kernel
theorem dX4_conkerAtRank_1 : decode cX4_conkerAtRank 1 = .ok (.istore_n 2, 1) := by decide +kernel
theorem dX4_conkerAtRank_2 : decode cX4_conkerAtRank 2 = .ok (.iload_n 2, 1) := by decide +kernel
theorem dX4_conkerAtRank_3 : decode cX4_conkerAtRank 3 = .ok (.aload_n 0, 1) := by decide +kernel
theorem dX4_conkerAtRank_4 : decode cX4_conkerAtRank 4 = .ok (.getfield 42, 3) := by decide +kernel
theorem dX4_conkerAtRank_7 : decode cX4_conkerAtRank 7 = .ok (.if_icmp .ge 30, 3) := by decide +kernel
theorem dX4_conkerAtRank_10 : decode cX4_conkerAtRank 10 = .ok (.aload_n 0, 1) := by decide +kernel
theorem dX4_conkerAtRank_11 : decode cX4_conkerAtRank 11 = .ok (.getfield 36, 3) := by decide +kernel
theorem dX4_conkerAtRank_14 : decode cX4_conkerAtRank 14 = .ok (.iload_n 2, 1) := by decide +kernel
theorem dX4_conkerAtRank_15 : decode cX4_conkerAtRank 15 = .ok (.iaload, 1) := by decide +kernel
theorem dX4_conkerAtRank_16 : decode cX4_conkerAtRank 16 = .ok (.iconst 2, 1) := by decide +kernel
theorem dX4_conkerAtRank_17 : decode cX4_conkerAtRank 17 = .ok (.if_icmp .eq 14, 3) := by decide +kernel
theorem dX4_conkerAtRank_20 : decode cX4_conkerAtRank 20 = .ok (.aload_n 0, 1) := by decide +kernel
theorem dX4_conkerAtRank_21 : decode cX4_conkerAtRank 21 = .ok (.iload_n 2, 1) := by decide +kernel
theorem dX4_conkerAtRank_22 : decode cX4_conkerAtRank 22 = .ok (.invokevirtual 124, 3) := by decide +kernel
theorem dX4_conkerAtRank_25 : decode cX4_conkerAtRank 25 = .ok (.iload_n 1, 1) := by decide +kernel
theorem dX4_conkerAtRank_26 : decode cX4_conkerAtRank 26 = .ok (.if_icmp .ne 5, 3) := by decide +kernel
theorem dX4_conkerAtRank_29 : decode cX4_conkerAtRank 29 = .ok (.iload_n 2, 1) := by decide +kernel
theorem dX4_conkerAtRank_30 : decode cX4_conkerAtRank 30 = .ok (.ireturn, 1) := by decide +kernel
theorem dX4_conkerAtRank_31 : decode cX4_conkerAtRank 31 = .ok (.iinc 2 1, 3) := by decide +kernel
theorem dX4_conkerAtRank_34 : decode cX4_conkerAtRank 34 = .ok (.goto (-32), 3) := by decide +kernel
theorem dX4_conkerAtRank_37 : decode cX4_conkerAtRank 37 = .ok (.bipush (-5), 2) := by decide +kernel
theorem dX4_conkerAtRank_39 : decode cX4_conkerAtRank 39 = .ok (.ireturn, 1) := by decide +kernel
theorem dX4_conkersAheadOf_0 : decode cX4_conkersAheadOf 0 = .ok (.iconst 0, 1) := by decide +kernel
theorem dX4_conkersAheadOf_1 : decode cX4_conkersAheadOf 1 = .ok (.istore_n 2, 1) := by decide +kernel
theorem dX4_conkersAheadOf_2 : decode cX4_conkersAheadOf 2 = .ok (.iconst 0, 1) := by decide +kernel
theorem dX4_conkersAheadOf_3 : decode cX4_conkersAheadOf 3 = .ok (.istore_n 3, 1) := by decide +kernel
theorem dX4_conkersAheadOf_4 : decode cX4_conkersAheadOf 4 = .ok (.iload_n 3, 1) := by decide +kernel
theorem dX4_conkersAheadOf_5 : decode cX4_conkersAheadOf 5 = .ok (.aload_n 0, 1) := by decide +kernel
theorem dX4_conkersAheadOf_6 : decode cX4_conkersAheadOf 6 = .ok (.getfield 42, 3) := by decide +kernel
theorem dX4_conkersAheadOf_9 : decode cX4_conkersAheadOf 9 = .ok (.if_icmp .ge 81, 3) := by decide +kernel
theorem dX4_conkersAheadOf_12 : decode cX4_conkersAheadOf 12 = .ok (.aload_n 0, 1) := by decide +kernel
theorem dX4_conkersAheadOf_13 : decode cX4_conkersAheadOf 13 = .ok (.getfield 30, 3) := by decide +kernel
theorem dX4_conkersAheadOf_16 : decode cX4_conkersAheadOf 16 = .ok (.iload_n 3, 1) := by decide +kernel
theorem dX4_conkersAheadOf_17 : decode cX4_conkersAheadOf 17 = .ok (.iaload, 1) := by decide +kernel
theorem dX4_conkersAheadOf_18 : decode cX4_conkersAheadOf 18 = .ok (.aload_n 0, 1) := by decide +kernel
theorem dX4_conkersAheadOf_19 : decode cX4_conkersAheadOf 19 = .ok (.getfield 30, 3) := by decide +kernel
theorem dX4_conkersAheadOf_22 : decode cX4_conkersAheadOf 22 = .ok (.iload_n 1, 1) := by decide +kernel
theorem dX4_conkersAheadOf_23 : decode cX4_conkersAheadOf 23 = .ok (.iaload, 1) := by decide +kernel
theorem dX4_conkersAheadOf_24 : decode cX4_conkersAheadOf 24 = .ok (.if_icmp .le 7, 3) := by decide +kernel
theorem dX4_conkersAheadOf_27 : decode cX4_conkersAheadOf 27 = .ok (.iconst 1, 1) := by decide +kernel
theorem dX4_conkersAheadOf_28 : decode cX4_conkersAheadOf 28 = .ok (.goto 4, 3) := by decide +kernel
theorem dX4_conkersAheadOf_31 : decode cX4_conkersAheadOf 31 = .ok (.iconst 0, 1) := by decide +kernel
theorem dX4_conkersAheadOf_32 : decode cX4_conkersAheadOf 32 = .ok (.istore 4, 2) := by decide +kernel
theorem dX4_conkersAheadOf_34 : decode cX4_conkersAheadOf 34 = .ok (.aload_n 0, 1) := by decide +kernel
theorem dX4_conkersAheadOf_35 : decode cX4_conkersAheadOf 35 = .ok (.getfield 30, 3) := by decide +kernel
theorem dX4_conkersAheadOf_38 : decode cX4_conkersAheadOf 38 = .ok (.iload_n 3, 1) := by decide +kernel
theorem dX4_conkersAheadOf_39 : decode cX4_conkersAheadOf 39 = .ok (.iaload, 1) := by decide +kernel
theorem dX4_conkersAheadOf_40 : decode cX4_conkersAheadOf 40 = .ok (.aload_n 0, 1) := by decide +kernel
theorem dX4_conkersAheadOf_41 : decode cX4_conkersAheadOf 41 = .ok (.getfield 30, 3) := by decide +kernel
theorem dX4_conkersAheadOf_44 : decode cX4_conkersAheadOf 44 = .ok (.iload_n 1, 1) := by decide +kernel
theorem dX4_conkersAheadOf_45 : decode cX4_conkersAheadOf 45 = .ok (.iaload, 1) := by decide +kernel
theorem dX4_conkersAheadOf_46 : decode cX4_conkersAheadOf 46 = .ok (.if_icmp .ne 12, 3) := by decide +kernel
theorem dX4_conkersAheadOf_49 : decode cX4_conkersAheadOf 49 = .ok (.iload_n 3, 1) := by decide +kernel
theorem dX4_conkersAheadOf_50 : decode cX4_conkersAheadOf 50 = .ok (.iload_n 1, 1) := by decide +kernel
theorem dX4_conkersAheadOf_51 : decode cX4_conkersAheadOf 51 = .ok (.if_icmp .ge 7, 3) := by decide +kernel
theorem dX4_conkersAheadOf_54 : decode cX4_conkersAheadOf 54 = .ok (.iconst 1, 1) := by decide +kernel
theorem dX4_conkersAheadOf_55 : decode cX4_conkersAheadOf 55 = .ok (.goto 4, 3) := by decide +kernel
theorem dX4_conkersAheadOf_58 : decode cX4_conkersAheadOf 58 = .ok (.iconst 0, 1) := by decide +kernel
theorem dX4_conkersAheadOf_59 : decode cX4_conkersAheadOf 59 = .ok (.istore 5, 2) := by decide +kernel
theorem dX4_conkersAheadOf_61 : decode cX4_conkersAheadOf 61 = .ok (.aload_n 0, 1) := by decide +kernel
theorem dX4_conkersAheadOf_62 : decode cX4_conkersAheadOf 62 = .ok (.getfield 36, 3) := by decide +kernel
theorem dX4_conkersAheadOf_65 : decode cX4_conkersAheadOf 65 = .ok (.iload_n 3, 1) := by decide +kernel
theorem dX4_conkersAheadOf_66 : decode cX4_conkersAheadOf 66 = .ok (.iaload, 1) := by decide +kernel
theorem dX4_conkersAheadOf_67 : decode cX4_conkersAheadOf 67 = .ok (.iconst 2, 1) := by decide +kernel
theorem dX4_conkersAheadOf_68 : decode cX4_conkersAheadOf 68 = .ok (.if_icmp .eq 16, 3) := by decide +kernel
theorem dX4_conkersAheadOf_71 : decode cX4_conkersAheadOf 71 = .ok (.iload 4, 2) := by decide +kernel
theorem dX4_conkersAheadOf_73 : decode cX4_conkersAheadOf 73 = .ok (.ifCond .ne 8, 3) := by decide +kernel
theorem dX4_conkersAheadOf_76 : decode cX4_conkersAheadOf 76 = .ok (.iload 5, 2) := by decide +kernel
theorem dX4_conkersAheadOf_78 : decode cX4_conkersAheadOf 78 = .ok (.ifCond .eq 6, 3) := by decide +kernel
theorem dX4_conkersAheadOf_81 : decode cX4_conkersAheadOf 81 = .ok (.iinc 2 1, 3) := by decide +kernel
theorem dX4_conkersAheadOf_84 : decode cX4_conkersAheadOf 84 = .ok (.iinc 3 1, 3) := by decide +kernel
theorem dX4_conkersAheadOf_87 : decode cX4_conkersAheadOf 87 = .ok (.goto (-83), 3) := by decide +kernel
theorem dX4_conkersAheadOf_90 : decode cX4_conkersAheadOf 90 = .ok (.iload_n 2, 1) := by decide +kernel
theorem dX4_conkersAheadOf_91 : decode cX4_conkersAheadOf 91 = .ok (.ireturn, 1) := by decide +kernel
theorem dX4_conkersSmashedBy_0 : decode cX4_conkersSmashedBy 0 = .ok (.iconst 0, 1) := by decide +kernel
theorem dX4_conkersSmashedBy_1 : decode cX4_conkersSmashedBy 1 = .ok (.istore_n 2, 1) := by decide +kernel
theorem dX4_conkersSmashedBy_2 : decode cX4_conkersSmashedBy 2 = .ok (.iconst 0, 1) := by decide +kernel
theorem dX4_conkersSmashedBy_3 : decode cX4_conkersSmashedBy 3 = .ok (.istore_n 3, 1) := by decide +kernel
theorem dX4_conkersSmashedBy_4 : decode cX4_conkersSmashedBy 4 = .ok (.iload_n 3, 1) := by decide +kernel
theorem dX4_conkersSmashedBy_5 : decode cX4_conkersSmashedBy 5 = .ok (.aload_n 0, 1) := by decide +kernel
theorem dX4_conkersSmashedBy_6 : decode cX4_conkersSmashedBy 6 = .ok (.getfield 42, 3) := by decide +kernel
theorem dX4_conkersSmashedBy_9 : decode cX4_conkersSmashedBy 9 = .ok (.if_icmp .ge 22, 3) := by decide +kernel
theorem dX4_conkersSmashedBy_12 : decode cX4_conkersSmashedBy 12 = .ok (.aload_n 0, 1) := by decide +kernel
theorem dX4_conkersSmashedBy_13 : decode cX4_conkersSmashedBy 13 = .ok (.getfield 39, 3) := by decide +kernel
end
section
theorem dX4_conkersSmashedBy_16 : decode cX4_conkersSmashedBy 16 = .ok (.iload_n 3, 1) := by decide +kernel
theorem dX4_conkersSmashedBy_17 : decode cX4_conkersSmashedBy 17 = .ok (.iaload, 1) := by decide +kernel
theorem dX4_conkersSmashedBy_18 : decode cX4_conkersSmashedBy 18 = .ok (.iload_n 1, 1) := by decide +kernel
theorem dX4_conkersSmashedBy_19 : decode cX4_conkersSmashedBy 19 = .ok (.if_icmp .ne 6, 3) := by decide +kernel
theorem dX4_conkersSmashedBy_22 : decode cX4_conkersSmashedBy 22 = .ok (.iinc 2 1, 3) := by decide +kernel
theorem dX4_conkersSmashedBy_25 : decode cX4_conkersSmashedBy 25 = .ok (.iinc 3 1, 3) := by decide +kernel
theorem dX4_conkersSmashedBy_28 : decode cX4_conkersSmashedBy 28 = .ok (.goto (-24), 3) := by decide +kernel
theorem dX4_conkersSmashedBy_31 : decode cX4_conkersSmashedBy 31 = .ok (.iload_n 2, 1) := by decide +kernel
theorem dX4_conkersSmashedBy_32 : decode cX4_conkersSmashedBy 32 = .ok (.ireturn, 1) := by decide +kernel
set_option maxRecDepth 20000 in
theorem ggX4_conkersWithHeir_X4_conkersSmashedBy : GoodIn wsX4_conkersWithHeir wsX4_conkersSmashedBy := goodIn_r _ [6, 1, 7, 8, 9, 10, 11, 12, 13, 14, 15, 16, 17, 18, 19, 20] (by decide +kernel) (by decide +kernel)
set_option maxRecDepth 20000 in
theorem gX4_conkersWithHeir_X4_conkersSmashedBy : GoodIn wsX4_conkersWithHeir (wsV RX4 127 RX4 yX4_conkersSmashedBy wsX4_conkersSmashedBy) := goodIn_app (goodIn_of _ (by decide +kernel)) ggX4_conkersWithHeir_X4_conkersSmashedBy
theorem dX4_conkersWithHeir_0 : decode cX4_conkersWithHeir 0 = .ok (.aload_n 0, 1) := by decide +kernel
theorem dX4_conkersWithHeir_1 : decode cX4_conkersWithHeir 1 = .ok (.getfield 42, 3) := by decide +kernel
theorem dX4_conkersWithHeir_4 : decode cX4_conkersWithHeir 4 = .ok (.aload_n 0, 1) := by decide +kernel
theorem dX4_conkersWithHeir_5 : decode cX4_conkersWithHeir 5 = .ok (.bipush (-5), 2) := by decide +kernel
theorem dX4_conkersWithHeir_7 : decode cX4_conkersWithHeir 7 = .ok (.invokevirtual 127, 3) := by decide +kernel
theorem dX4_conkersWithHeir_10 : decode cX4_conkersWithHeir 10 = .ok (.isub, 1) := by decide +kernel
theorem dX4_conkersWithHeir_11 : decode cX4_conkersWithHeir 11 = .ok (.ireturn, 1) := by decide +kernel
set_option maxRecDepth 20000 in
theorem ggX4_lengthOfLine_X4_isInLineOf : GoodIn wsX4_lengthOfLine wsX4_isInLineOf := goodIn_r _ [6, 7, 1, 8, 9, 10, 5, 11, 12, 13, 14, 15, 16, 17, 18, 19, 20, 21, 22, 23, 24, 25, 26, 27] (by decide +kernel) (by decide +kernel)
set_option maxRecDepth 20000 in
theorem gX4_lengthOfLine_X4_isInLineOf : GoodIn wsX4_lengthOfLine (wsV RX4 130 RX4 yX4_isInLineOf wsX4_isInLineOf) := goodIn_app (goodIn_of _ (by decide +kernel)) ggX4_lengthOfLine_X4_isInLineOf
theorem dX4_lengthOfLine_0 : decode cX4_lengthOfLine 0 = .ok (.iconst 0, 1) := by decide +kernel
theorem dX4_lengthOfLine_1 : decode cX4_lengthOfLine 1 = .ok (.istore_n 2, 1) := by decide +kernel
theorem dX4_lengthOfLine_2 : decode cX4_lengthOfLine 2 = .ok (.iconst 0, 1) := by decide +kernel
theorem dX4_lengthOfLine_3 : decode cX4_lengthOfLine 3 = .ok (.istore_n 3, 1) := by decide +kernel
theorem dX4_lengthOfLine_4 : decode cX4_lengthOfLine 4 = .ok (.iload_n 3, 1) := by decide +kernel
theorem dX4_lengthOfLine_5 : decode cX4_lengthOfLine 5 = .ok (.aload_n 0, 1) := by decide +kernel
theorem dX4_lengthOfLine_6 : decode cX4_lengthOfLine 6 = .ok (.getfield 42, 3) := by decide +kernel
theorem dX4_lengthOfLine_9 : decode cX4_lengthOfLine 9 = .ok (.if_icmp .ge 21, 3) := by decide +kernel
theorem dX4_lengthOfLine_12 : decode cX4_lengthOfLine 12 = .ok (.aload_n 0, 1) := by decide +kernel
theorem dX4_lengthOfLine_13 : decode cX4_lengthOfLine 13 = .ok (.iload_n 3, 1) := by decide +kernel
theorem dX4_lengthOfLine_14 : decode cX4_lengthOfLine 14 = .ok (.iload_n 1, 1) := by decide +kernel
theorem dX4_lengthOfLine_15 : decode cX4_lengthOfLine 15 = .ok (.invokevirtual 130, 3) := by decide +kernel
theorem dX4_lengthOfLine_18 : decode cX4_lengthOfLine 18 = .ok (.ifCond .eq 6, 3) := by decide +kernel
theorem dX4_lengthOfLine_21 : decode cX4_lengthOfLine 21 = .ok (.iinc 2 1, 3) := by decide +kernel
theorem dX4_lengthOfLine_24 : decode cX4_lengthOfLine 24 = .ok (.iinc 3 1, 3) := by decide +kernel
theorem dX4_lengthOfLine_27 : decode cX4_lengthOfLine 27 = .ok (.goto (-23), 3) := by decide +kernel
theorem dX4_lengthOfLine_30 : decode cX4_lengthOfLine 30 = .ok (.iload_n 2, 1) := by decide +kernel
theorem dX4_lengthOfLine_31 : decode cX4_lengthOfLine 31 = .ok (.ireturn, 1) := by decide +kernel
set_option maxRecDepth 20000 in
theorem ggX4_isInLineOf_X4_hasConker : GoodIn wsX4_isInLineOf wsX4_hasConker := goodIn_r _ [7, 2, 8, 9, 10, 11, 12, 13, 14, 15, 16, 17, 18, 19, 20, 21, 22, 23] (by decide +kernel) (by decide +kernel)
set_option maxRecDepth 20000 in
theorem gX4_isInLineOf_X4_hasConker : GoodIn wsX4_isInLineOf (wsV RX4 67 RX4 yX4_hasConker wsX4_hasConker) := goodIn_app (goodIn_of _ (by decide +kernel)) ggX4_isInLineOf_X4_hasConker
theorem dX4_isInLineOf_0 : decode cX4_isInLineOf 0 = .ok (.aload_n 0, 1) := by decide +kernel
theorem dX4_isInLineOf_1 : decode cX4_isInLineOf 1 = .ok (.getfield 39, 3) := by decide +kernel
theorem dX4_isInLineOf_4 : decode cX4_isInLineOf 4 = .ok (.iload_n 1, 1) := by decide +kernel
theorem dX4_isInLineOf_5 : decode cX4_isInLineOf 5 = .ok (.iaload, 1) := by decide +kernel
theorem dX4_isInLineOf_6 : decode cX4_isInLineOf 6 = .ok (.istore_n 3, 1) := by decide +kernel
theorem dX4_isInLineOf_7 : decode cX4_isInLineOf 7 = .ok (.iconst 0, 1) := by decide +kernel
theorem dX4_isInLineOf_8 : decode cX4_isInLineOf 8 = .ok (.istore 4, 2) := by decide +kernel
theorem dX4_isInLineOf_10 : decode cX4_isInLineOf 10 = .ok (.iload 4, 2) := by decide +kernel
theorem dX4_isInLineOf_12 : decode cX4_isInLineOf 12 = .ok (.aload_n 0, 1) := by decide +kernel
theorem dX4_isInLineOf_13 : decode cX4_isInLineOf 13 = .ok (.getfield 42, 3) := by decide +kernel
theorem dX4_isInLineOf_16 : decode cX4_isInLineOf 16 = .ok (.if_icmp .ge 31, 3) := by decide +kernel
theorem dX4_isInLineOf_19 : decode cX4_isInLineOf 19 = .ok (.aload_n 0, 1) := by decide +kernel
theorem dX4_isInLineOf_20 : decode cX4_isInLineOf 20 = .ok (.iload_n 3, 1) := by decide +kernel
theorem dX4_isInLineOf_21 : decode cX4_isInLineOf 21 = .ok (.invokevirtual 67, 3) := by decide +kernel
theorem dX4_isInLineOf_24 : decode cX4_isInLineOf 24 = .ok (.ifCond .eq 23, 3) := by decide +kernel
theorem dX4_isInLineOf_27 : decode cX4_isInLineOf 27 = .ok (.iload_n 3, 1) := by decide +kernel
theorem dX4_isInLineOf_28 : decode cX4_isInLineOf 28 = .ok (.iload_n 2, 1) := by decide +kernel
theorem dX4_isInLineOf_29 : decode cX4_isInLineOf 29 = .ok (.if_icmp .ne 5, 3) := by decide +kernel
theorem dX4_isInLineOf_32 : decode cX4_isInLineOf 32 = .ok (.iconst 1, 1) := by decide +kernel
theorem dX4_isInLineOf_33 : decode cX4_isInLineOf 33 = .ok (.ireturn, 1) := by decide +kernel
theorem dX4_isInLineOf_34 : decode cX4_isInLineOf 34 = .ok (.aload_n 0, 1) := by decide +kernel
theorem dX4_isInLineOf_35 : decode cX4_isInLineOf 35 = .ok (.getfield 39, 3) := by decide +kernel
theorem dX4_isInLineOf_38 : decode cX4_isInLineOf 38 = .ok (.iload_n 3, 1) := by decide +kernel
theorem dX4_isInLineOf_39 : decode cX4_isInLineOf 39 = .ok (.iaload, 1) := by decide +kernel
theorem dX4_isInLineOf_40 : decode cX4_isInLineOf 40 = .ok (.istore_n 3, 1) := by decide +kernel
theorem dX4_isInLineOf_41 : decode cX4_isInLineOf 41 = .ok (.iinc 4 1, 3) := by decide +kernel
theorem dX4_isInLineOf_44 : decode cX4_isInLineOf 44 = .ok (.goto (-34), 3) := by decide +kernel
theorem dX4_isInLineOf_47 : decode cX4_isInLineOf 47 = .ok (.iconst 0, 1) := by decide +kernel
theorem dX4_isInLineOf_48 : decode cX4_isInLineOf 48 = .ok (.ireturn, 1) := by decide +kernel
theorem dX4_boastsTold_0 : decode cX4_boastsTold 0 = .ok (.iconst 0, 1) := by decide +kernel
theorem dX4_boastsTold_1 : decode cX4_boastsTold 1 = .ok (.istore_n 1, 1) := by decide +kernel
theorem dX4_boastsTold_2 : decode cX4_boastsTold 2 = .ok (.iconst 0, 1) := by decide +kernel
theorem dX4_boastsTold_3 : decode cX4_boastsTold 3 = .ok (.istore_n 2, 1) := by decide +kernel
theorem dX4_boastsTold_4 : decode cX4_boastsTold 4 = .ok (.iload_n 2, 1) := by decide +kernel
theorem dX4_boastsTold_5 : decode cX4_boastsTold 5 = .ok (.aload_n 0, 1) := by decide +kernel
theorem dX4_boastsTold_6 : decode cX4_boastsTold 6 = .ok (.getfield 42, 3) := by decide +kernel
theorem dX4_boastsTold_9 : decode cX4_boastsTold 9 = .ok (.if_icmp .ge 23, 3) := by decide +kernel
theorem dX4_boastsTold_12 : decode cX4_boastsTold 12 = .ok (.aload_n 0, 1) := by decide +kernel
theorem dX4_boastsTold_13 : decode cX4_boastsTold 13 = .ok (.getfield 33, 3) := by decide +kernel
theorem dX4_boastsTold_16 : decode cX4_boastsTold 16 = .ok (.iload_n 2, 1) := by decide +kernel
theorem dX4_boastsTold_17 : decode cX4_boastsTold 17 = .ok (.iaload, 1) := by decide +kernel
theorem dX4_boastsTold_18 : decode cX4_boastsTold 18 = .ok (.bipush (-5), 2) := by decide +kernel
theorem dX4_boastsTold_20 : decode cX4_boastsTold 20 = .ok (.if_icmp .eq 6, 3) := by decide +kernel
theorem dX4_boastsTold_23 : decode cX4_boastsTold 23 = .ok (.iinc 1 1, 3) := by decide +kernel
theorem dX4_boastsTold_26 : decode cX4_boastsTold 26 = .ok (.iinc 2 1, 3) := by decide +kernel
theorem dX4_boastsTold_29 : decode cX4_boastsTold 29 = .ok (.goto (-25), 3) := by decide +kernel
theorem dX4_boastsTold_32 : decode cX4_boastsTold 32 = .ok (.iload_n 1, 1) := by decide +kernel
theorem dX4_boastsTold_33 : decode cX4_boastsTold 33 = .ok (.ireturn, 1) := by decide +kernel
theorem dX4_boastsTooHigh_0 : decode cX4_boastsTooHigh 0 = .ok (.iconst 0, 1) := by decide +kernel
theorem dX4_boastsTooHigh_1 : decode cX4_boastsTooHigh 1 = .ok (.istore_n 1, 1) := by decide +kernel
theorem dX4_boastsTooHigh_2 : decode cX4_boastsTooHigh 2 = .ok (.iconst 0, 1) := by decide +kernel
theorem dX4_boastsTooHigh_3 : decode cX4_boastsTooHigh 3 = .ok (.istore_n 2, 1) := by decide +kernel
theorem dX4_boastsTooHigh_4 : decode cX4_boastsTooHigh 4 = .ok (.iload_n 2, 1) := by decide +kernel
theorem dX4_boastsTooHigh_5 : decode cX4_boastsTooHigh 5 = .ok (.aload_n 0, 1) := by decide +kernel
theorem dX4_boastsTooHigh_6 : decode cX4_boastsTooHigh 6 = .ok (.getfield 42, 3) := by decide +kernel
theorem dX4_boastsTooHigh_9 : decode cX4_boastsTooHigh 9 = .ok (.if_icmp .ge 27, 3) := by decide +kernel
theorem dX4_boastsTooHigh_12 : decode cX4_boastsTooHigh 12 = .ok (.aload_n 0, 1) := by decide +kernel
theorem dX4_boastsTooHigh_13 : decode cX4_boastsTooHigh 13 = .ok (.getfield 33, 3) := by decide +kernel
theorem dX4_boastsTooHigh_16 : decode cX4_boastsTooHigh 16 = .ok (.iload_n 2, 1) := by decide +kernel
theorem dX4_boastsTooHigh_17 : decode cX4_boastsTooHigh 17 = .ok (.iaload, 1) := by decide +kernel
theorem dX4_boastsTooHigh_18 : decode cX4_boastsTooHigh 18 = .ok (.aload_n 0, 1) := by decide +kernel
theorem dX4_boastsTooHigh_19 : decode cX4_boastsTooHigh 19 = .ok (.getfield 30, 3) := by decide +kernel
theorem dX4_boastsTooHigh_22 : decode cX4_boastsTooHigh 22 = .ok (.iload_n 2, 1) := by decide +kernel
theorem dX4_boastsTooHigh_23 : decode cX4_boastsTooHigh 23 = .ok (.iaload, 1) := by decide +kernel
theorem dX4_boastsTooHigh_24 : decode cX4_boastsTooHigh 24 = .ok (.if_icmp .le 6, 3) := by decide +kernel
theorem dX4_boastsTooHigh_27 : decode cX4_boastsTooHigh 27 = .ok (.iinc 1 1, 3) := by decide +kernel
theorem dX4_boastsTooHigh_30 : decode cX4_boastsTooHigh 30 = .ok (.iinc 2 1, 3) := by decide +kernel
theorem dX4_boastsTooHigh_33 : decode cX4_boastsTooHigh 33 = .ok (.goto (-29), 3) := by decide +kernel
theorem dX4_boastsTooHigh_36 : decode cX4_boastsTooHigh 36 = .ok (.iload_n 1, 1) := by decide +kernel
theorem dX4_boastsTooHigh_37 : decode cX4_boastsTooHigh 37 = .ok (.ireturn, 1) := by decide +kernel
set_option maxRecDepth 20000 in
theorem ggX5_init_X4_init : GoodIn wsX5_init wsX4_init := goodIn_r _ [29, 30, 2, 3, 31, 32, 33, 34, 35, 36, 37, 38, 39, 40, 41, 42, 43, 44, 73, 74, 75, 76, 77, 78, 79, 80, 81, 82, 83, 84, 85] (by decide +kernel) (by decide +kernel)
set_option maxRecDepth 20000 in
theorem gX5_init_X4_init : GoodIn wsX5_init (wsX4_init) := ggX5_init_X4_init
set_option maxRecDepth 20000 in
theorem ggX5_init_X1_init : GoodIn wsX5_init wsX1_init := goodIn_r _ [47, 48, 2, 3, 49, 50, 51, 5, 6, 52, 28, 29, 30, 31, 32, 33, 34, 35, 36, 37, 38, 39, 40, 41, 42, 43, 44, 94, 95, 73, 74, 75, 76, 77, 78, 79, 80, 81, 82, 83, 84, 85] (by decide +kernel) (by decide +kernel)
set_option maxRecDepth 20000 in
theorem gX5_init_X1_init : GoodIn wsX5_init (wsX1_init) := ggX5_init_X1_init
set_option maxRecDepth 20000 in
theorem ggX5_init_X3_init : GoodIn wsX5_init wsX3_init := goodIn_r _ [54, 55, 2, 3, 56, 57, 58, 59, 60, 61, 62, 63, 96, 97, 98, 99, 100, 101, 102] (by decide +kernel) (by decide +kernel)
set_option maxRecDepth 20000 in
theorem gX5_init_X3_init_n31 : GoodIn wsX5_init (wsX3_init) := ggX5_init_X3_init
set_option maxRecDepth 20000 in
theorem ggX5_init_X0_init : GoodIn wsX5_init wsX0_init := goodIn_r _ [65, 66, 2, 3, 67, 103] (by decide +kernel) (by decide +kernel)
set_option maxRecDepth 20000 in
theorem gX5_init_X0_init_n38 : GoodIn wsX5_init (wsX0_init) := ggX5_init_X0_init
set_option maxRecDepth 20000 in
theorem ggX5_init_X2_init : GoodIn wsX5_init wsX2_init := goodIn_r _ [69, 70, 2, 3, 31, 71, 72, 104, 105] (by decide +kernel) (by decide +kernel)
set_option maxRecDepth 20000 in
theorem gX5_init_X2_init_n45 : GoodIn wsX5_init (wsX2_init) := ggX5_init_X2_init
theorem dX5_init_0 : decode cX5_init 0 = .ok (.aload_n 0, 1) := by decide +kernel
theorem dX5_init_1 : decode cX5_init 1 = .ok (.invokespecial 1, 3) := by decide +kernel
theorem dX5_init_4 : decode cX5_init 4 = .ok (.aload_n 0, 1) := by decide +kernel
theorem dX5_init_5 : decode cX5_init 5 = .ok (.new 7, 3) := by decide +kernel
theorem dX5_init_8 : decode cX5_init 8 = .ok (.dup, 1) := by decide +kernel
theorem dX5_init_9 : decode cX5_init 9 = .ok (.invokespecial 9, 3) := by decide +kernel
theorem dX5_init_12 : decode cX5_init 12 = .ok (.putfield 10, 3) := by decide +kernel
theorem dX5_init_15 : decode cX5_init 15 = .ok (.aload_n 0, 1) := by decide +kernel
theorem dX5_init_16 : decode cX5_init 16 = .ok (.new 7, 3) := by decide +kernel
theorem dX5_init_19 : decode cX5_init 19 = .ok (.dup, 1) := by decide +kernel
theorem dX5_init_20 : decode cX5_init 20 = .ok (.invokespecial 9, 3) := by decide +kernel
theorem dX5_init_23 : decode cX5_init 23 = .ok (.putfield 16, 3) := by decide +kernel
theorem dX5_init_26 : decode cX5_init 26 = .ok (.aload_n 0, 1) := by decide +kernel
theorem dX5_init_27 : decode cX5_init 27 = .ok (.new 7, 3) := by decide +kernel
theorem dX5_init_30 : decode cX5_init 30 = .ok (.dup, 1) := by decide +kernel
theorem dX5_init_31 : decode cX5_init 31 = .ok (.invokespecial 9, 3) := by decide +kernel
theorem dX5_init_34 : decode cX5_init 34 = .ok (.putfield 19, 3) := by decide +kernel
theorem dX5_init_37 : decode cX5_init 37 = .ok (.aload_n 0, 1) := by decide +kernel
theorem dX5_init_38 : decode cX5_init 38 = .ok (.new 22, 3) := by decide +kernel
theorem dX5_init_41 : decode cX5_init 41 = .ok (.dup, 1) := by decide +kernel
theorem dX5_init_42 : decode cX5_init 42 = .ok (.invokespecial 24, 3) := by decide +kernel
theorem dX5_init_45 : decode cX5_init 45 = .ok (.putfield 25, 3) := by decide +kernel
theorem dX5_init_48 : decode cX5_init 48 = .ok (.aload_n 0, 1) := by decide +kernel
theorem dX5_init_49 : decode cX5_init 49 = .ok (.new 29, 3) := by decide +kernel
theorem dX5_init_52 : decode cX5_init 52 = .ok (.dup, 1) := by decide +kernel
theorem dX5_init_53 : decode cX5_init 53 = .ok (.invokespecial 31, 3) := by decide +kernel
theorem dX5_init_56 : decode cX5_init 56 = .ok (.putfield 32, 3) := by decide +kernel
theorem dX5_init_59 : decode cX5_init 59 = .ok (.aload_n 0, 1) := by decide +kernel
theorem dX5_init_60 : decode cX5_init 60 = .ok (.new 36, 3) := by decide +kernel
theorem dX5_init_63 : decode cX5_init 63 = .ok (.dup, 1) := by decide +kernel
theorem dX5_init_64 : decode cX5_init 64 = .ok (.invokespecial 38, 3) := by decide +kernel
theorem dX5_init_67 : decode cX5_init 67 = .ok (.putfield 39, 3) := by decide +kernel
theorem dX5_init_70 : decode cX5_init 70 = .ok (.aload_n 0, 1) := by decide +kernel
theorem dX5_init_71 : decode cX5_init 71 = .ok (.new 43, 3) := by decide +kernel
theorem dX5_init_74 : decode cX5_init 74 = .ok (.dup, 1) := by decide +kernel
theorem dX5_init_75 : decode cX5_init 75 = .ok (.invokespecial 45, 3) := by decide +kernel
theorem dX5_init_78 : decode cX5_init 78 = .ok (.putfield 46, 3) := by decide +kernel
theorem dX5_init_81 : decode cX5_init 81 = .ok (.aload_n 0, 1) := by decide +kernel
theorem dX5_init_82 : decode cX5_init 82 = .ok (.iconst 0, 1) := by decide +kernel
theorem dX5_init_83 : decode cX5_init 83 = .ok (.putfield 50, 3) := by decide +kernel
theorem dX5_init_86 : decode cX5_init 86 = .ok (.return_, 1) := by decide +kernel
set_option maxRecDepth 20000 in
theorem ggX5_thread_X5_isPlayer : GoodIn wsX5_thread wsX5_isPlayer := goodIn_r _ [8, 9, 10, 7, 11] (by decide +kernel) (by decide +kernel)
set_option maxRecDepth 20000 in
theorem gX5_thread_X5_isPlayer : GoodIn wsX5_thread (va_wsS RX5 54 yX5_isPlayer wsX5_isPlayer) := goodIn_app (goodIn_of _ (by decide +kernel)) ggX5_thread_X5_isPlayer
set_option maxRecDepth 20000 in
theorem ggX5_thread_X5_isWithin : GoodIn wsX5_thread wsX5_isWithin := goodIn_r _ [11] (by decide +kernel) (by decide +kernel)
set_option maxRecDepth 20000 in
theorem gX5_thread_X5_isWithin : GoodIn wsX5_thread (va_wsS RX5 58 yX5_isWithin wsX5_isWithin) := goodIn_app (goodIn_of _ (by decide +kernel)) ggX5_thread_X5_isWithin
set_option maxRecDepth 20000 in
theorem ggX5_thread_X1_keep : GoodIn wsX5_thread wsX1_keep := goodIn_r _ [16, 17, 18, 19, 20, 21, 15, 22, 23, 24, 25, 26, 27, 28, 29, 30, 31, 32, 33, 34, 35, 36, 37, 38, 39, 40, 41, 42, 43, 44, 70, 71, 57, 58, 59, 60, 61, 62, 63, 64, 65, 66, 67, 68, 69] (by decide +kernel) (by decide +kernel)
set_option maxRecDepth 20000 in
theorem gX5_thread_X1_keep : GoodIn wsX5_thread (wsV RX5 70 RX1 yX1_keep wsX1_keep) := goodIn_app (goodIn_of _ (by decide +kernel)) ggX5_thread_X1_keep
set_option maxRecDepth 20000 in
theorem ggX5_thread_X4_addConker : GoodIn wsX5_thread wsX4_addConker := goodIn_r _ [48, 42, 28, 34, 35, 36, 37, 38, 39, 40, 41, 57, 58, 59, 60, 61, 62, 63, 64, 65, 66, 67, 68, 69] (by decide +kernel) (by decide +kernel)
set_option maxRecDepth 20000 in
theorem gX5_thread_X4_addConker : GoodIn wsX5_thread (wsV RX5 74 RX4 yX4_addConker wsX4_addConker) := goodIn_app (goodIn_of _ (by decide +kernel)) ggX5_thread_X4_addConker
theorem dX5_thread_0 : decode cX5_thread 0 = .ok (.iload_n 1, 1) := by decide +kernel
theorem dX5_thread_1 : decode cX5_thread 1 = .ok (.invokestatic 54, 3) := by decide +kernel
theorem dX5_thread_4 : decode cX5_thread 4 = .ok (.ifCond .ne 5, 3) := by decide +kernel
theorem dX5_thread_7 : decode cX5_thread 7 = .ok (.iconst (-1), 1) := by decide +kernel
theorem dX5_thread_8 : decode cX5_thread 8 = .ok (.ireturn, 1) := by decide +kernel
theorem dX5_thread_9 : decode cX5_thread 9 = .ok (.iload_n 2, 1) := by decide +kernel
theorem dX5_thread_10 : decode cX5_thread 10 = .ok (.iconst 1, 1) := by decide +kernel
theorem dX5_thread_11 : decode cX5_thread 11 = .ok (.bipush 9, 2) := by decide +kernel
theorem dX5_thread_13 : decode cX5_thread 13 = .ok (.invokestatic 58, 3) := by decide +kernel
theorem dX5_thread_16 : decode cX5_thread 16 = .ok (.ifCond .ne 6, 3) := by decide +kernel
theorem dX5_thread_19 : decode cX5_thread 19 = .ok (.bipush (-2), 2) := by decide +kernel
theorem dX5_thread_21 : decode cX5_thread 21 = .ok (.ireturn, 1) := by decide +kernel
theorem dX5_thread_22 : decode cX5_thread 22 = .ok (.aload_n 0, 1) := by decide +kernel
theorem dX5_thread_23 : decode cX5_thread 23 = .ok (.getfield 10, 3) := by decide +kernel
theorem dX5_thread_26 : decode cX5_thread 26 = .ok (.getfield 62, 3) := by decide +kernel
theorem dX5_thread_29 : decode cX5_thread 29 = .ok (.iload_n 1, 1) := by decide +kernel
theorem dX5_thread_30 : decode cX5_thread 30 = .ok (.iaload, 1) := by decide +kernel
theorem dX5_thread_31 : decode cX5_thread 31 = .ok (.iconst 1, 1) := by decide +kernel
theorem dX5_thread_32 : decode cX5_thread 32 = .ok (.if_icmp .ge 6, 3) := by decide +kernel
theorem dX5_thread_35 : decode cX5_thread 35 = .ok (.bipush (-4), 2) := by decide +kernel
theorem dX5_thread_37 : decode cX5_thread 37 = .ok (.ireturn, 1) := by decide +kernel
theorem dX5_thread_38 : decode cX5_thread 38 = .ok (.aload_n 0, 1) := by decide +kernel
theorem dX5_thread_39 : decode cX5_thread 39 = .ok (.getfield 10, 3) := by decide +kernel
theorem dX5_thread_42 : decode cX5_thread 42 = .ok (.getfield 66, 3) := by decide +kernel
theorem dX5_thread_45 : decode cX5_thread 45 = .ok (.bipush 30, 2) := by decide +kernel
theorem dX5_thread_47 : decode cX5_thread 47 = .ok (.if_icmp .lt 6, 3) := by decide +kernel
theorem dX5_thread_50 : decode cX5_thread 50 = .ok (.bipush (-3), 2) := by decide +kernel
theorem dX5_thread_52 : decode cX5_thread 52 = .ok (.ireturn, 1) := by decide +kernel
theorem dX5_thread_53 : decode cX5_thread 53 = .ok (.aload_n 0, 1) := by decide +kernel
theorem dX5_thread_54 : decode cX5_thread 54 = .ok (.getfield 25, 3) := by decide +kernel
theorem dX5_thread_57 : decode cX5_thread 57 = .ok (.aload_n 0, 1) := by decide +kernel
theorem dX5_thread_58 : decode cX5_thread 58 = .ok (.getfield 10, 3) := by decide +kernel
theorem dX5_thread_61 : decode cX5_thread 61 = .ok (.invokevirtual 70, 3) := by decide +kernel
theorem dX5_thread_64 : decode cX5_thread 64 = .ok (.aload_n 0, 1) := by decide +kernel
theorem dX5_thread_65 : decode cX5_thread 65 = .ok (.getfield 10, 3) := by decide +kernel
theorem dX5_thread_68 : decode cX5_thread 68 = .ok (.iload_n 1, 1) := by decide +kernel
theorem dX5_thread_69 : decode cX5_thread 69 = .ok (.iload_n 2, 1) := by decide +kernel
theorem dX5_thread_70 : decode cX5_thread 70 = .ok (.invokevirtual 74, 3) := by decide +kernel
theorem dX5_thread_73 : decode cX5_thread 73 = .ok (.ireturn, 1) := by decide +kernel
set_option maxRecDepth 20000 in
theorem ggX5_give_X5_isPlayer : GoodIn wsX5_give wsX5_isPlayer := goodIn_r _ [7, 8, 9, 6, 10] (by decide +kernel) (by decide +kernel)
set_option maxRecDepth 20000 in
theorem gX5_give_X5_isPlayer : GoodIn wsX5_give (va_wsS RX5 54 yX5_isPlayer wsX5_isPlayer) := goodIn_app (goodIn_of _ (by decide +kernel)) ggX5_give_X5_isPlayer
set_option maxRecDepth 20000 in
theorem ggX5_give_X5_isWithin : GoodIn wsX5_give wsX5_isWithin := goodIn_r _ [10] (by decide +kernel) (by decide +kernel)
set_option maxRecDepth 20000 in
theorem gX5_give_X5_isWithin : GoodIn wsX5_give (va_wsS RX5 58 yX5_isWithin wsX5_isWithin) := goodIn_app (goodIn_of _ (by decide +kernel)) ggX5_give_X5_isWithin
set_option maxRecDepth 20000 in
theorem ggX5_give_X1_keep : GoodIn wsX5_give wsX1_keep := goodIn_r _ [15, 16, 17, 18, 19, 20, 14, 21, 22, 23, 24, 25, 26, 27, 28, 29, 30, 31, 32, 33, 34, 35, 36, 37, 38, 39, 40, 41, 42, 43, 65, 66, 52, 53, 54, 55, 56, 57, 58, 59, 60, 61, 62, 63, 64] (by decide +kernel) (by decide +kernel)
set_option maxRecDepth 20000 in
theorem gX5_give_X1_keep : GoodIn wsX5_give (wsV RX5 70 RX1 yX1_keep wsX1_keep) := goodIn_app (goodIn_of _ (by decide +kernel)) ggX5_give_X1_keep
theorem dX5_give_0 : decode cX5_give 0 = .ok (.iload_n 1, 1) := by decide +kernel
theorem dX5_give_1 : decode cX5_give 1 = .ok (.invokestatic 54, 3) := by decide +kernel
theorem dX5_give_4 : decode cX5_give 4 = .ok (.ifCond .ne 5, 3) := by decide +kernel
theorem dX5_give_7 : decode cX5_give 7 = .ok (.iconst (-1), 1) := by decide +kernel
theorem dX5_give_8 : decode cX5_give 8 = .ok (.ireturn, 1) := by decide +kernel
theorem dX5_give_9 : decode cX5_give 9 = .ok (.iload_n 2, 1) := by decide +kernel
theorem dX5_give_10 : decode cX5_give 10 = .ok (.iconst 1, 1) := by decide +kernel
theorem dX5_give_11 : decode cX5_give 11 = .ok (.bipush 9, 2) := by decide +kernel
theorem dX5_give_13 : decode cX5_give 13 = .ok (.invokestatic 58, 3) := by decide +kernel
theorem dX5_give_16 : decode cX5_give 16 = .ok (.ifCond .ne 6, 3) := by decide +kernel
theorem dX5_give_19 : decode cX5_give 19 = .ok (.bipush (-2), 2) := by decide +kernel
theorem dX5_give_21 : decode cX5_give 21 = .ok (.ireturn, 1) := by decide +kernel
theorem dX5_give_22 : decode cX5_give 22 = .ok (.aload_n 0, 1) := by decide +kernel
theorem dX5_give_23 : decode cX5_give 23 = .ok (.getfield 10, 3) := by decide +kernel
theorem dX5_give_26 : decode cX5_give 26 = .ok (.getfield 62, 3) := by decide +kernel
theorem dX5_give_29 : decode cX5_give 29 = .ok (.iload_n 1, 1) := by decide +kernel
theorem dX5_give_30 : decode cX5_give 30 = .ok (.iaload, 1) := by decide +kernel
theorem dX5_give_31 : decode cX5_give 31 = .ok (.iload_n 2, 1) := by decide +kernel
theorem dX5_give_32 : decode cX5_give 32 = .ok (.iadd, 1) := by decide +kernel
theorem dX5_give_33 : decode cX5_give 33 = .ok (.bipush 20, 2) := by decide +kernel
theorem dX5_give_35 : decode cX5_give 35 = .ok (.if_icmp .le 6, 3) := by decide +kernel
theorem dX5_give_38 : decode cX5_give 38 = .ok (.bipush (-3), 2) := by decide +kernel
theorem dX5_give_40 : decode cX5_give 40 = .ok (.ireturn, 1) := by decide +kernel
theorem dX5_give_41 : decode cX5_give 41 = .ok (.aload_n 0, 1) := by decide +kernel
theorem dX5_give_42 : decode cX5_give 42 = .ok (.getfield 25, 3) := by decide +kernel
theorem dX5_give_45 : decode cX5_give 45 = .ok (.aload_n 0, 1) := by decide +kernel
theorem dX5_give_46 : decode cX5_give 46 = .ok (.getfield 10, 3) := by decide +kernel
theorem dX5_give_49 : decode cX5_give 49 = .ok (.invokevirtual 70, 3) := by decide +kernel
theorem dX5_give_52 : decode cX5_give 52 = .ok (.aload_n 0, 1) := by decide +kernel
theorem dX5_give_53 : decode cX5_give 53 = .ok (.getfield 10, 3) := by decide +kernel
theorem dX5_give_56 : decode cX5_give 56 = .ok (.getfield 62, 3) := by decide +kernel
theorem dX5_give_59 : decode cX5_give 59 = .ok (.iload_n 1, 1) := by decide +kernel
theorem dX5_give_60 : decode cX5_give 60 = .ok (.dup2, 1) := by decide +kernel
theorem dX5_give_61 : decode cX5_give 61 = .ok (.iaload, 1) := by decide +kernel
theorem dX5_give_62 : decode cX5_give 62 = .ok (.iload_n 2, 1) := by decide +kernel
theorem dX5_give_63 : decode cX5_give 63 = .ok (.iadd, 1) := by decide +kernel
theorem dX5_give_64 : decode cX5_give 64 = .ok (.iastore, 1) := by decide +kernel
theorem dX5_give_65 : decode cX5_give 65 = .ok (.aload_n 0, 1) := by decide +kernel
theorem dX5_give_66 : decode cX5_give 66 = .ok (.getfield 10, 3) := by decide +kernel
theorem dX5_give_69 : decode cX5_give 69 = .ok (.getfield 62, 3) := by decide +kernel
theorem dX5_give_72 : decode cX5_give 72 = .ok (.iload_n 1, 1) := by decide +kernel
theorem dX5_give_73 : decode cX5_give 73 = .ok (.iaload, 1) := by decide +kernel
theorem dX5_give_74 : decode cX5_give 74 = .ok (.ireturn, 1) := by decide +kernel
set_option maxRecDepth 20000 in
theorem ggX5_strike_X4_strikeError : GoodIn wsX5_strike wsX4_strikeError := goodIn_r _ [7, 8, 9, 10, 11, 12, 13, 6, 14, 15, 16, 17, 18, 19, 20, 21, 22, 23, 24, 25, 98, 99, 100, 101, 102, 103, 104, 105, 106, 107, 108, 109, 110] (by decide +kernel) (by decide +kernel)
set_option maxRecDepth 20000 in
theorem gX5_strike_X4_strikeError : GoodIn wsX5_strike (wsV RX5 78 RX4 yX4_strikeError wsX4_strikeError) := goodIn_app (goodIn_of _ (by decide +kernel)) ggX5_strike_X4_strikeError
set_option maxRecDepth 20000 in
theorem ggX5_strike_X1_keep : GoodIn wsX5_strike wsX1_keep := goodIn_r _ [30, 31, 32, 33, 34, 35, 29, 36, 37, 38, 39, 6, 40, 41, 42, 43, 44, 45, 46, 15, 47, 48, 49, 50, 51, 25, 52, 20, 53, 54, 111, 112, 98, 99, 100, 101, 102, 103, 104, 105, 106, 107, 108, 109, 110] (by decide +kernel) (by decide +kernel)
set_option maxRecDepth 20000 in
theorem gX5_strike_X1_keep : GoodIn wsX5_strike (wsV RX5 70 RX1 yX1_keep wsX1_keep) := goodIn_app (goodIn_of _ (by decide +kernel)) ggX5_strike_X1_keep
set_option maxRecDepth 20000 in
theorem ggX5_strike_X4_hit : GoodIn wsX5_strike wsX4_hit := goodIn_r _ [58, 47, 54, 48, 59, 60, 61, 62, 49, 63, 64, 6, 65, 66, 67, 68, 69, 70, 71, 72, 73, 53, 74, 75, 76, 77, 50, 51, 25, 78, 79, 80, 81, 52, 82, 83, 84, 85, 86, 87, 88, 89, 98, 99, 100, 101, 102, 103, 104, 105, 106, 107, 108, 109, 110] (by decide +kernel) (by decide +kernel)
set_option maxRecDepth 20000 in
theorem gX5_strike_X4_hit : GoodIn wsX5_strike (wsV RX5 82 RX4 yX4_hit wsX4_hit) := goodIn_app (goodIn_of _ (by decide +kernel)) ggX5_strike_X4_hit
theorem dX5_strike_0 : decode cX5_strike 0 = .ok (.aload_n 0, 1) := by decide +kernel
theorem dX5_strike_1 : decode cX5_strike 1 = .ok (.getfield 10, 3) := by decide +kernel
theorem dX5_strike_4 : decode cX5_strike 4 = .ok (.iload_n 1, 1) := by decide +kernel
theorem dX5_strike_5 : decode cX5_strike 5 = .ok (.iload_n 2, 1) := by decide +kernel
theorem dX5_strike_6 : decode cX5_strike 6 = .ok (.iload_n 3, 1) := by decide +kernel
theorem dX5_strike_7 : decode cX5_strike 7 = .ok (.invokevirtual 78, 3) := by decide +kernel
theorem dX5_strike_10 : decode cX5_strike 10 = .ok (.istore 4, 2) := by decide +kernel
theorem dX5_strike_12 : decode cX5_strike 12 = .ok (.iload 4, 2) := by decide +kernel
theorem dX5_strike_14 : decode cX5_strike 14 = .ok (.ifCond .eq 6, 3) := by decide +kernel
theorem dX5_strike_17 : decode cX5_strike 17 = .ok (.iload 4, 2) := by decide +kernel
theorem dX5_strike_19 : decode cX5_strike 19 = .ok (.ireturn, 1) := by decide +kernel
theorem dX5_strike_20 : decode cX5_strike 20 = .ok (.aload_n 0, 1) := by decide +kernel
theorem dX5_strike_21 : decode cX5_strike 21 = .ok (.getfield 25, 3) := by decide +kernel
theorem dX5_strike_24 : decode cX5_strike 24 = .ok (.aload_n 0, 1) := by decide +kernel
theorem dX5_strike_25 : decode cX5_strike 25 = .ok (.getfield 10, 3) := by decide +kernel
theorem dX5_strike_28 : decode cX5_strike 28 = .ok (.invokevirtual 70, 3) := by decide +kernel
theorem dX5_strike_31 : decode cX5_strike 31 = .ok (.aload_n 0, 1) := by decide +kernel
theorem dX5_strike_32 : decode cX5_strike 32 = .ok (.getfield 10, 3) := by decide +kernel
theorem dX5_strike_35 : decode cX5_strike 35 = .ok (.iload_n 1, 1) := by decide +kernel
theorem dX5_strike_36 : decode cX5_strike 36 = .ok (.iload_n 2, 1) := by decide +kernel
theorem dX5_strike_37 : decode cX5_strike 37 = .ok (.iload_n 3, 1) := by decide +kernel
theorem dX5_strike_38 : decode cX5_strike 38 = .ok (.invokevirtual 82, 3) := by decide +kernel
theorem dX5_strike_41 : decode cX5_strike 41 = .ok (.ireturn, 1) := by decide +kernel
set_option maxRecDepth 20000 in
theorem ggX5_mend_X4_mendError : GoodIn wsX5_mend wsX4_mendError := goodIn_r _ [7, 8, 9, 10, 11, 12, 6, 13, 14, 15, 16, 17, 18, 19, 20, 21, 22, 63, 64, 65, 66, 67, 68, 69, 70, 71, 72, 73, 74, 75] (by decide +kernel) (by decide +kernel)
set_option maxRecDepth 20000 in
theorem gX5_mend_X4_mendError : GoodIn wsX5_mend (wsV RX5 85 RX4 yX4_mendError wsX4_mendError) := goodIn_app (goodIn_of _ (by decide +kernel)) ggX5_mend_X4_mendError
set_option maxRecDepth 20000 in
theorem ggX5_mend_X1_keep : GoodIn wsX5_mend wsX1_keep := goodIn_r _ [27, 28, 29, 30, 31, 32, 26, 33, 34, 35, 36, 6, 37, 8, 38, 39, 40, 41, 42, 9, 43, 44, 45, 46, 47, 14, 48, 19, 49, 50, 76, 77, 63, 64, 65, 66, 67, 68, 69, 70, 71, 72, 73, 74, 75] (by decide +kernel) (by decide +kernel)
set_option maxRecDepth 20000 in
theorem gX5_mend_X1_keep : GoodIn wsX5_mend (wsV RX5 70 RX1 yX1_keep wsX1_keep) := goodIn_app (goodIn_of _ (by decide +kernel)) ggX5_mend_X1_keep
set_option maxRecDepth 20000 in
theorem ggX5_mend_X4_threadAgain : GoodIn wsX5_mend wsX4_threadAgain := goodIn_r _ [54, 9, 8, 45, 14, 63, 64, 65, 66, 67, 68, 69, 70, 71, 72, 73, 74, 75] (by decide +kernel) (by decide +kernel)
set_option maxRecDepth 20000 in
theorem gX5_mend_X4_threadAgain : GoodIn wsX5_mend (wsV RX5 89 RX4 yX4_threadAgain wsX4_threadAgain) := goodIn_app (goodIn_of _ (by decide +kernel)) ggX5_mend_X4_threadAgain
theorem dX5_mend_0 : decode cX5_mend 0 = .ok (.aload_n 0, 1) := by decide +kernel
theorem dX5_mend_1 : decode cX5_mend 1 = .ok (.getfield 10, 3) := by decide +kernel
theorem dX5_mend_4 : decode cX5_mend 4 = .ok (.iload_n 1, 1) := by decide +kernel
theorem dX5_mend_5 : decode cX5_mend 5 = .ok (.invokevirtual 85, 3) := by decide +kernel
theorem dX5_mend_8 : decode cX5_mend 8 = .ok (.istore_n 2, 1) := by decide +kernel
theorem dX5_mend_9 : decode cX5_mend 9 = .ok (.iload_n 2, 1) := by decide +kernel
theorem dX5_mend_10 : decode cX5_mend 10 = .ok (.ifCond .eq 5, 3) := by decide +kernel
theorem dX5_mend_13 : decode cX5_mend 13 = .ok (.iload_n 2, 1) := by decide +kernel
theorem dX5_mend_14 : decode cX5_mend 14 = .ok (.ireturn, 1) := by decide +kernel
theorem dX5_mend_15 : decode cX5_mend 15 = .ok (.aload_n 0, 1) := by decide +kernel
theorem dX5_mend_16 : decode cX5_mend 16 = .ok (.getfield 25, 3) := by decide +kernel
theorem dX5_mend_19 : decode cX5_mend 19 = .ok (.aload_n 0, 1) := by decide +kernel
theorem dX5_mend_20 : decode cX5_mend 20 = .ok (.getfield 10, 3) := by decide +kernel
theorem dX5_mend_23 : decode cX5_mend 23 = .ok (.invokevirtual 70, 3) := by decide +kernel
theorem dX5_mend_26 : decode cX5_mend 26 = .ok (.aload_n 0, 1) := by decide +kernel
theorem dX5_mend_27 : decode cX5_mend 27 = .ok (.getfield 10, 3) := by decide +kernel
theorem dX5_mend_30 : decode cX5_mend 30 = .ok (.iload_n 1, 1) := by decide +kernel
theorem dX5_mend_31 : decode cX5_mend 31 = .ok (.invokevirtual 89, 3) := by decide +kernel
theorem dX5_mend_34 : decode cX5_mend 34 = .ok (.ireturn, 1) := by decide +kernel
set_option maxRecDepth 20000 in
theorem ggX5_stamp_X4_fallenError : GoodIn wsX5_stamp wsX4_fallenError := goodIn_r _ [7, 8, 9, 10, 11, 6, 12, 13, 14, 15, 16, 63, 64, 65, 66, 67, 68, 69, 70, 71, 72, 73, 74, 75] (by decide +kernel) (by decide +kernel)
set_option maxRecDepth 20000 in
theorem gX5_stamp_X4_fallenError : GoodIn wsX5_stamp (wsV RX5 92 RX4 yX4_fallenError wsX4_fallenError) := goodIn_app (goodIn_of _ (by decide +kernel)) ggX5_stamp_X4_fallenError
set_option maxRecDepth 20000 in
theorem ggX5_stamp_X1_keep : GoodIn wsX5_stamp wsX1_keep := goodIn_r _ [21, 22, 23, 24, 25, 26, 20, 27, 28, 29, 30, 6, 31, 32, 33, 34, 35, 36, 37, 38, 39, 40, 41, 42, 43, 8, 44, 13, 45, 46, 76, 77, 63, 64, 65, 66, 67, 68, 69, 70, 71, 72, 73, 74, 75] (by decide +kernel) (by decide +kernel)
set_option maxRecDepth 20000 in
theorem gX5_stamp_X1_keep : GoodIn wsX5_stamp (wsV RX5 70 RX1 yX1_keep wsX1_keep) := goodIn_app (goodIn_of _ (by decide +kernel)) ggX5_stamp_X1_keep
set_option maxRecDepth 20000 in
theorem ggX5_stamp_X4_crush : GoodIn wsX5_stamp wsX4_crush := goodIn_r _ [50, 45, 51, 52, 53, 6, 54, 42, 43, 8, 63, 64, 65, 66, 67, 68, 69, 70, 71, 72, 73, 74, 75] (by decide +kernel) (by decide +kernel)
set_option maxRecDepth 20000 in
theorem gX5_stamp_X4_crush : GoodIn wsX5_stamp (wsV RX5 95 RX4 yX4_crush wsX4_crush) := goodIn_app (goodIn_of _ (by decide +kernel)) ggX5_stamp_X4_crush
theorem dX5_stamp_0 : decode cX5_stamp 0 = .ok (.aload_n 0, 1) := by decide +kernel
theorem dX5_stamp_1 : decode cX5_stamp 1 = .ok (.getfield 10, 3) := by decide +kernel
theorem dX5_stamp_4 : decode cX5_stamp 4 = .ok (.iload_n 1, 1) := by decide +kernel
theorem dX5_stamp_5 : decode cX5_stamp 5 = .ok (.invokevirtual 92, 3) := by decide +kernel
theorem dX5_stamp_8 : decode cX5_stamp 8 = .ok (.istore_n 2, 1) := by decide +kernel
theorem dX5_stamp_9 : decode cX5_stamp 9 = .ok (.iload_n 2, 1) := by decide +kernel
theorem dX5_stamp_10 : decode cX5_stamp 10 = .ok (.ifCond .eq 5, 3) := by decide +kernel
theorem dX5_stamp_13 : decode cX5_stamp 13 = .ok (.iload_n 2, 1) := by decide +kernel
theorem dX5_stamp_14 : decode cX5_stamp 14 = .ok (.ireturn, 1) := by decide +kernel
theorem dX5_stamp_15 : decode cX5_stamp 15 = .ok (.aload_n 0, 1) := by decide +kernel
theorem dX5_stamp_16 : decode cX5_stamp 16 = .ok (.getfield 25, 3) := by decide +kernel
theorem dX5_stamp_19 : decode cX5_stamp 19 = .ok (.aload_n 0, 1) := by decide +kernel
theorem dX5_stamp_20 : decode cX5_stamp 20 = .ok (.getfield 10, 3) := by decide +kernel
theorem dX5_stamp_23 : decode cX5_stamp 23 = .ok (.invokevirtual 70, 3) := by decide +kernel
theorem dX5_stamp_26 : decode cX5_stamp 26 = .ok (.aload_n 0, 1) := by decide +kernel
theorem dX5_stamp_27 : decode cX5_stamp 27 = .ok (.getfield 10, 3) := by decide +kernel
theorem dX5_stamp_30 : decode cX5_stamp 30 = .ok (.iload_n 1, 1) := by decide +kernel
theorem dX5_stamp_31 : decode cX5_stamp 31 = .ok (.invokevirtual 95, 3) := by decide +kernel
theorem dX5_stamp_34 : decode cX5_stamp 34 = .ok (.ireturn, 1) := by decide +kernel
set_option maxRecDepth 20000 in
theorem ggX5_boast_X4_hasConker : GoodIn wsX5_boast wsX4_hasConker := goodIn_r _ [9, 10, 11, 12, 13, 54, 55, 56, 57, 58, 59, 60, 61, 62, 63, 64, 65, 66] (by decide +kernel) (by decide +kernel)
set_option maxRecDepth 20000 in
theorem gX5_boast_X4_hasConker : GoodIn wsX5_boast (wsV RX5 98 RX4 yX4_hasConker wsX4_hasConker) := goodIn_app (goodIn_of _ (by decide +kernel)) ggX5_boast_X4_hasConker
set_option maxRecDepth 20000 in
theorem ggX5_boast_X5_isWithin : GoodIn wsX5_boast wsX5_isWithin := goodIn_r _ [13] (by decide +kernel) (by decide +kernel)
set_option maxRecDepth 20000 in
theorem gX5_boast_X5_isWithin : GoodIn wsX5_boast (va_wsS RX5 58 yX5_isWithin wsX5_isWithin) := goodIn_app (goodIn_of _ (by decide +kernel)) ggX5_boast_X5_isWithin
set_option maxRecDepth 20000 in
theorem ggX5_boast_X1_keep : GoodIn wsX5_boast wsX1_keep := goodIn_r _ [19, 20, 21, 22, 23, 24, 18, 25, 26, 27, 28, 8, 29, 30, 31, 32, 33, 34, 35, 36, 37, 38, 39, 40, 41, 42, 43, 10, 44, 45, 67, 68, 54, 55, 56, 57, 58, 59, 60, 61, 62, 63, 64, 65, 66] (by decide +kernel) (by decide +kernel)
set_option maxRecDepth 20000 in
theorem gX5_boast_X1_keep : GoodIn wsX5_boast (wsV RX5 70 RX1 yX1_keep wsX1_keep) := goodIn_app (goodIn_of _ (by decide +kernel)) ggX5_boast_X1_keep
theorem dX5_boast_0 : decode cX5_boast 0 = .ok (.aload_n 0, 1) := by decide +kernel
theorem dX5_boast_1 : decode cX5_boast 1 = .ok (.getfield 10, 3) := by decide +kernel
theorem dX5_boast_4 : decode cX5_boast 4 = .ok (.iload_n 1, 1) := by decide +kernel
theorem dX5_boast_5 : decode cX5_boast 5 = .ok (.invokevirtual 98, 3) := by decide +kernel
theorem dX5_boast_8 : decode cX5_boast 8 = .ok (.ifCond .ne 5, 3) := by decide +kernel
theorem dX5_boast_11 : decode cX5_boast 11 = .ok (.iconst (-1), 1) := by decide +kernel
theorem dX5_boast_12 : decode cX5_boast 12 = .ok (.ireturn, 1) := by decide +kernel
theorem dX5_boast_13 : decode cX5_boast 13 = .ok (.iload_n 2, 1) := by decide +kernel
theorem dX5_boast_14 : decode cX5_boast 14 = .ok (.iconst 0, 1) := by decide +kernel
theorem dX5_boast_15 : decode cX5_boast 15 = .ok (.bipush 99, 2) := by decide +kernel
theorem dX5_boast_17 : decode cX5_boast 17 = .ok (.invokestatic 58, 3) := by decide +kernel
theorem dX5_boast_20 : decode cX5_boast 20 = .ok (.ifCond .ne 6, 3) := by decide +kernel
theorem dX5_boast_23 : decode cX5_boast 23 = .ok (.bipush (-2), 2) := by decide +kernel
theorem dX5_boast_25 : decode cX5_boast 25 = .ok (.ireturn, 1) := by decide +kernel
theorem dX5_boast_26 : decode cX5_boast 26 = .ok (.aload_n 0, 1) := by decide +kernel
theorem dX5_boast_27 : decode cX5_boast 27 = .ok (.getfield 10, 3) := by decide +kernel
theorem dX5_boast_30 : decode cX5_boast 30 = .ok (.getfield 101, 3) := by decide +kernel
theorem dX5_boast_33 : decode cX5_boast 33 = .ok (.iload_n 1, 1) := by decide +kernel
theorem dX5_boast_34 : decode cX5_boast 34 = .ok (.iaload, 1) := by decide +kernel
theorem dX5_boast_35 : decode cX5_boast 35 = .ok (.iconst 2, 1) := by decide +kernel
theorem dX5_boast_36 : decode cX5_boast 36 = .ok (.if_icmp .ne 6, 3) := by decide +kernel
theorem dX5_boast_39 : decode cX5_boast 39 = .ok (.bipush (-4), 2) := by decide +kernel
theorem dX5_boast_41 : decode cX5_boast 41 = .ok (.ireturn, 1) := by decide +kernel
theorem dX5_boast_42 : decode cX5_boast 42 = .ok (.aload_n 0, 1) := by decide +kernel
theorem dX5_boast_43 : decode cX5_boast 43 = .ok (.getfield 25, 3) := by decide +kernel
theorem dX5_boast_46 : decode cX5_boast 46 = .ok (.aload_n 0, 1) := by decide +kernel
theorem dX5_boast_47 : decode cX5_boast 47 = .ok (.getfield 10, 3) := by decide +kernel
theorem dX5_boast_50 : decode cX5_boast 50 = .ok (.invokevirtual 70, 3) := by decide +kernel
theorem dX5_boast_53 : decode cX5_boast 53 = .ok (.aload_n 0, 1) := by decide +kernel
theorem dX5_boast_54 : decode cX5_boast 54 = .ok (.getfield 10, 3) := by decide +kernel
theorem dX5_boast_57 : decode cX5_boast 57 = .ok (.getfield 104, 3) := by decide +kernel
theorem dX5_boast_60 : decode cX5_boast 60 = .ok (.iload_n 1, 1) := by decide +kernel
theorem dX5_boast_61 : decode cX5_boast 61 = .ok (.iaload, 1) := by decide +kernel
theorem dX5_boast_62 : decode cX5_boast 62 = .ok (.istore_n 3, 1) := by decide +kernel
theorem dX5_boast_63 : decode cX5_boast 63 = .ok (.aload_n 0, 1) := by decide +kernel
theorem dX5_boast_64 : decode cX5_boast 64 = .ok (.getfield 10, 3) := by decide +kernel
theorem dX5_boast_67 : decode cX5_boast 67 = .ok (.getfield 104, 3) := by decide +kernel
theorem dX5_boast_70 : decode cX5_boast 70 = .ok (.iload_n 1, 1) := by decide +kernel
theorem dX5_boast_71 : decode cX5_boast 71 = .ok (.iload_n 2, 1) := by decide +kernel
theorem dX5_boast_72 : decode cX5_boast 72 = .ok (.iastore, 1) := by decide +kernel
theorem dX5_boast_73 : decode cX5_boast 73 = .ok (.iload_n 3, 1) := by decide +kernel
theorem dX5_boast_74 : decode cX5_boast 74 = .ok (.ireturn, 1) := by decide +kernel
set_option maxRecDepth 20000 in
theorem ggX5_doubt_X5_isPlayer : GoodIn wsX5_doubt wsX5_isPlayer := goodIn_r _ [8, 9, 10, 7, 11] (by decide +kernel) (by decide +kernel)
set_option maxRecDepth 20000 in
theorem gX5_doubt_X5_isPlayer : GoodIn wsX5_doubt (va_wsS RX5 54 yX5_isPlayer wsX5_isPlayer) := goodIn_app (goodIn_of _ (by decide +kernel)) ggX5_doubt_X5_isPlayer
end
section
set_option maxRecDepth 20000 in
theorem ggX5_doubt_X4_hasConker : GoodIn wsX5_doubt wsX4_hasConker := goodIn_r _ [16, 17, 10, 7, 11, 61, 62, 63, 64, 65, 66, 67, 68, 69, 70, 71, 72, 73] (by decide +kernel) (by decide +kernel)
set_option maxRecDepth 20000 in
theorem gX5_doubt_X4_hasConker : GoodIn wsX5_doubt (wsV RX5 98 RX4 yX4_hasConker wsX4_hasConker) := goodIn_app (goodIn_of _ (by decide +kernel)) ggX5_doubt_X4_hasConker
set_option maxRecDepth 20000 in
theorem ggX5_doubt_X1_keep : GoodIn wsX5_doubt wsX1_keep := goodIn_r _ [22, 23, 24, 25, 26, 27, 21, 28, 29, 30, 31, 15, 32, 33, 34, 35, 36, 37, 38, 39, 40, 41, 42, 43, 44, 45, 46, 17, 47, 48, 74, 75, 61, 62, 63, 64, 65, 66, 67, 68, 69, 70, 71, 72, 73] (by decide +kernel) (by decide +kernel)
set_option maxRecDepth 20000 in
theorem gX5_doubt_X1_keep : GoodIn wsX5_doubt (wsV RX5 70 RX1 yX1_keep wsX1_keep) := goodIn_app (goodIn_of _ (by decide +kernel)) ggX5_doubt_X1_keep
set_option maxRecDepth 20000 in
theorem ggX5_doubt_X4_settleBoast : GoodIn wsX5_doubt wsX4_settleBoast := goodIn_r _ [52, 44, 43, 39, 38, 61, 62, 63, 64, 65, 66, 67, 68, 69, 70, 71, 72, 73] (by decide +kernel) (by decide +kernel)
set_option maxRecDepth 20000 in
theorem gX5_doubt_X4_settleBoast : GoodIn wsX5_doubt (wsV RX5 110 RX4 yX4_settleBoast wsX4_settleBoast) := goodIn_app (goodIn_of _ (by decide +kernel)) ggX5_doubt_X4_settleBoast
theorem dX5_doubt_0 : decode cX5_doubt 0 = .ok (.iload_n 1, 1) := by decide +kernel
theorem dX5_doubt_1 : decode cX5_doubt 1 = .ok (.invokestatic 54, 3) := by decide +kernel
theorem dX5_doubt_4 : decode cX5_doubt 4 = .ok (.ifCond .eq 14, 3) := by decide +kernel
theorem dX5_doubt_7 : decode cX5_doubt 7 = .ok (.aload_n 0, 1) := by decide +kernel
theorem dX5_doubt_8 : decode cX5_doubt 8 = .ok (.getfield 10, 3) := by decide +kernel
theorem dX5_doubt_11 : decode cX5_doubt 11 = .ok (.iload_n 2, 1) := by decide +kernel
theorem dX5_doubt_12 : decode cX5_doubt 12 = .ok (.invokevirtual 98, 3) := by decide +kernel
theorem dX5_doubt_15 : decode cX5_doubt 15 = .ok (.ifCond .ne 5, 3) := by decide +kernel
theorem dX5_doubt_18 : decode cX5_doubt 18 = .ok (.iconst (-1), 1) := by decide +kernel
theorem dX5_doubt_19 : decode cX5_doubt 19 = .ok (.ireturn, 1) := by decide +kernel
theorem dX5_doubt_20 : decode cX5_doubt 20 = .ok (.aload_n 0, 1) := by decide +kernel
theorem dX5_doubt_21 : decode cX5_doubt 21 = .ok (.getfield 10, 3) := by decide +kernel
theorem dX5_doubt_24 : decode cX5_doubt 24 = .ok (.getfield 107, 3) := by decide +kernel
theorem dX5_doubt_27 : decode cX5_doubt 27 = .ok (.iload_n 2, 1) := by decide +kernel
theorem dX5_doubt_28 : decode cX5_doubt 28 = .ok (.iaload, 1) := by decide +kernel
theorem dX5_doubt_29 : decode cX5_doubt 29 = .ok (.iload_n 1, 1) := by decide +kernel
theorem dX5_doubt_30 : decode cX5_doubt 30 = .ok (.if_icmp .ne 6, 3) := by decide +kernel
theorem dX5_doubt_33 : decode cX5_doubt 33 = .ok (.bipush (-2), 2) := by decide +kernel
theorem dX5_doubt_35 : decode cX5_doubt 35 = .ok (.ireturn, 1) := by decide +kernel
theorem dX5_doubt_36 : decode cX5_doubt 36 = .ok (.aload_n 0, 1) := by decide +kernel
theorem dX5_doubt_37 : decode cX5_doubt 37 = .ok (.getfield 10, 3) := by decide +kernel
theorem dX5_doubt_40 : decode cX5_doubt 40 = .ok (.getfield 104, 3) := by decide +kernel
theorem dX5_doubt_43 : decode cX5_doubt 43 = .ok (.iload_n 2, 1) := by decide +kernel
theorem dX5_doubt_44 : decode cX5_doubt 44 = .ok (.iaload, 1) := by decide +kernel
theorem dX5_doubt_45 : decode cX5_doubt 45 = .ok (.bipush (-5), 2) := by decide +kernel
theorem dX5_doubt_47 : decode cX5_doubt 47 = .ok (.if_icmp .ne 6, 3) := by decide +kernel
theorem dX5_doubt_50 : decode cX5_doubt 50 = .ok (.bipush (-4), 2) := by decide +kernel
theorem dX5_doubt_52 : decode cX5_doubt 52 = .ok (.ireturn, 1) := by decide +kernel
theorem dX5_doubt_53 : decode cX5_doubt 53 = .ok (.aload_n 0, 1) := by decide +kernel
theorem dX5_doubt_54 : decode cX5_doubt 54 = .ok (.getfield 25, 3) := by decide +kernel
theorem dX5_doubt_57 : decode cX5_doubt 57 = .ok (.aload_n 0, 1) := by decide +kernel
theorem dX5_doubt_58 : decode cX5_doubt 58 = .ok (.getfield 10, 3) := by decide +kernel
theorem dX5_doubt_61 : decode cX5_doubt 61 = .ok (.invokevirtual 70, 3) := by decide +kernel
theorem dX5_doubt_64 : decode cX5_doubt 64 = .ok (.aload_n 0, 1) := by decide +kernel
theorem dX5_doubt_65 : decode cX5_doubt 65 = .ok (.getfield 10, 3) := by decide +kernel
theorem dX5_doubt_68 : decode cX5_doubt 68 = .ok (.iload_n 1, 1) := by decide +kernel
theorem dX5_doubt_69 : decode cX5_doubt 69 = .ok (.iload_n 2, 1) := by decide +kernel
theorem dX5_doubt_70 : decode cX5_doubt 70 = .ok (.invokevirtual 110, 3) := by decide +kernel
theorem dX5_doubt_73 : decode cX5_doubt 73 = .ok (.ireturn, 1) := by decide +kernel
set_option maxRecDepth 20000 in
theorem ggX5_bout_X4_boutError : GoodIn wsX5_bout wsX4_boutError := goodIn_r _ [8, 9, 10, 11, 12, 13, 14, 15, 7, 16, 17, 18, 19, 20, 21, 22, 23, 24, 25, 26, 27, 122, 123, 124, 125, 126, 127, 128, 129, 130, 131, 132, 133, 134] (by decide +kernel) (by decide +kernel)
set_option maxRecDepth 20000 in
theorem gX5_bout_X4_boutError : GoodIn wsX5_bout (wsV RX5 113 RX4 yX4_boutError wsX4_boutError) := goodIn_app (goodIn_of _ (by decide +kernel)) ggX5_bout_X4_boutError
set_option maxRecDepth 20000 in
theorem ggX5_bout_X1_keep : GoodIn wsX5_bout wsX1_keep := goodIn_r _ [32, 33, 34, 35, 36, 37, 31, 38, 39, 40, 41, 7, 42, 43, 44, 45, 46, 47, 48, 17, 49, 50, 51, 52, 53, 27, 54, 22, 55, 56, 135, 136, 122, 123, 124, 125, 126, 127, 128, 129, 130, 131, 132, 133, 134] (by decide +kernel) (by decide +kernel)
set_option maxRecDepth 20000 in
theorem gX5_bout_X1_keep : GoodIn wsX5_bout (wsV RX5 70 RX1 yX1_keep wsX1_keep) := goodIn_app (goodIn_of _ (by decide +kernel)) ggX5_bout_X1_keep
set_option maxRecDepth 20000 in
theorem ggX5_bout_X0_begin : GoodIn wsX5_bout wsX0_begin := goodIn_r _ [61, 62, 137] (by decide +kernel) (by decide +kernel)
set_option maxRecDepth 20000 in
theorem gX5_bout_X0_begin : GoodIn wsX5_bout (wsV RX5 116 RX0 yX0_begin wsX0_begin) := goodIn_app (goodIn_of _ (by decide +kernel)) ggX5_bout_X0_begin
set_option maxRecDepth 20000 in
theorem ggX5_bout_X4_fight : GoodIn wsX5_bout wsX4_fight := goodIn_r _ [66, 67, 68, 69, 70, 71, 72, 73, 23, 24, 25, 7, 26, 27, 74, 75, 76, 60, 77, 78, 79, 80, 81, 62, 82, 83, 84, 85, 86, 49, 56, 50, 51, 87, 88, 89, 90, 91, 92, 93, 94, 95, 96, 97, 55, 98, 99, 100, 101, 52, 53, 102, 103, 104, 105, 54, 106, 107, 108, 109, 110, 111, 112, 113, 122, 123, 124, 125, 126, 127, 128, 129, 130, 131, 132, 133, 134, 137] (by decide +kernel) (by decide +kernel)
set_option maxRecDepth 20000 in
theorem gX5_bout_X4_fight : GoodIn wsX5_bout (wsV RX5 120 RX4 yX4_fight wsX4_fight) := goodIn_app (goodIn_of _ (by decide +kernel)) ggX5_bout_X4_fight
theorem dX5_bout_0 : decode cX5_bout 0 = .ok (.aload_n 0, 1) := by decide +kernel
theorem dX5_bout_1 : decode cX5_bout 1 = .ok (.getfield 10, 3) := by decide +kernel
theorem dX5_bout_4 : decode cX5_bout 4 = .ok (.iload_n 1, 1) := by decide +kernel
theorem dX5_bout_5 : decode cX5_bout 5 = .ok (.iload_n 2, 1) := by decide +kernel
theorem dX5_bout_6 : decode cX5_bout 6 = .ok (.iload_n 3, 1) := by decide +kernel
theorem dX5_bout_7 : decode cX5_bout 7 = .ok (.invokevirtual 113, 3) := by decide +kernel
theorem dX5_bout_10 : decode cX5_bout 10 = .ok (.istore 4, 2) := by decide +kernel
theorem dX5_bout_12 : decode cX5_bout 12 = .ok (.iload 4, 2) := by decide +kernel
theorem dX5_bout_14 : decode cX5_bout 14 = .ok (.ifCond .eq 6, 3) := by decide +kernel
theorem dX5_bout_17 : decode cX5_bout 17 = .ok (.iload 4, 2) := by decide +kernel
theorem dX5_bout_19 : decode cX5_bout 19 = .ok (.ireturn, 1) := by decide +kernel
theorem dX5_bout_20 : decode cX5_bout 20 = .ok (.aload_n 0, 1) := by decide +kernel
theorem dX5_bout_21 : decode cX5_bout 21 = .ok (.getfield 25, 3) := by decide +kernel
theorem dX5_bout_24 : decode cX5_bout 24 = .ok (.aload_n 0, 1) := by decide +kernel
theorem dX5_bout_25 : decode cX5_bout 25 = .ok (.getfield 10, 3) := by decide +kernel
theorem dX5_bout_28 : decode cX5_bout 28 = .ok (.invokevirtual 70, 3) := by decide +kernel
theorem dX5_bout_31 : decode cX5_bout 31 = .ok (.aload_n 0, 1) := by decide +kernel
theorem dX5_bout_32 : decode cX5_bout 32 = .ok (.getfield 39, 3) := by decide +kernel
theorem dX5_bout_35 : decode cX5_bout 35 = .ok (.iload_n 3, 1) := by decide +kernel
theorem dX5_bout_36 : decode cX5_bout 36 = .ok (.invokevirtual 116, 3) := by decide +kernel
theorem dX5_bout_39 : decode cX5_bout 39 = .ok (.aload_n 0, 1) := by decide +kernel
theorem dX5_bout_40 : decode cX5_bout 40 = .ok (.getfield 10, 3) := by decide +kernel
theorem dX5_bout_43 : decode cX5_bout 43 = .ok (.iload_n 1, 1) := by decide +kernel
theorem dX5_bout_44 : decode cX5_bout 44 = .ok (.iload_n 2, 1) := by decide +kernel
theorem dX5_bout_45 : decode cX5_bout 45 = .ok (.aload_n 0, 1) := by decide +kernel
theorem dX5_bout_46 : decode cX5_bout 46 = .ok (.getfield 39, 3) := by decide +kernel
theorem dX5_bout_49 : decode cX5_bout 49 = .ok (.invokevirtual 120, 3) := by decide +kernel
theorem dX5_bout_52 : decode cX5_bout 52 = .ok (.ireturn, 1) := by decide +kernel
set_option maxRecDepth 20000 in
theorem ggX5_round_X5_isWithin : GoodIn wsX5_round wsX5_isWithin := goodIn_r _ [10] (by decide +kernel) (by decide +kernel)
set_option maxRecDepth 20000 in
theorem gX5_round_X5_isWithin : GoodIn wsX5_round (va_wsS RX5 58 yX5_isWithin wsX5_isWithin) := goodIn_app (goodIn_of _ (by decide +kernel)) ggX5_round_X5_isWithin
set_option maxRecDepth 20000 in
theorem ggX5_round_X1_keep : GoodIn wsX5_round wsX1_keep := goodIn_r _ [15, 16, 17, 18, 19, 20, 14, 21, 22, 23, 24, 25, 26, 27, 28, 29, 30, 31, 32, 33, 34, 35, 36, 37, 38, 39, 40, 41, 42, 43, 137, 138, 139, 140, 141, 142, 143, 144, 145, 146, 147, 148, 149, 150, 151] (by decide +kernel) (by decide +kernel)
set_option maxRecDepth 20000 in
theorem gX5_round_X1_keep : GoodIn wsX5_round (wsV RX5 70 RX1 yX1_keep wsX1_keep) := goodIn_app (goodIn_of _ (by decide +kernel)) ggX5_round_X1_keep
set_option maxRecDepth 20000 in
theorem ggX5_round_X0_begin : GoodIn wsX5_round wsX0_begin := goodIn_r _ [48, 49, 152] (by decide +kernel) (by decide +kernel)
set_option maxRecDepth 20000 in
theorem gX5_round_X0_begin : GoodIn wsX5_round (wsV RX5 116 RX0 yX0_begin wsX0_begin) := goodIn_app (goodIn_of _ (by decide +kernel)) ggX5_round_X0_begin
set_option maxRecDepth 20000 in
theorem ggX5_round_X2_lineUp : GoodIn wsX5_round wsX2_lineUp := goodIn_r _ [54, 55, 56, 57, 58, 25, 59, 41, 39, 33, 37, 60, 61, 62, 53, 63, 64, 65, 66, 135, 136, 139, 140, 141, 142, 143, 144, 145, 146, 147, 148, 149, 150, 151] (by decide +kernel) (by decide +kernel)
set_option maxRecDepth 20000 in
theorem gX5_round_X2_lineUp : GoodIn wsX5_round (wsV RX5 125 RX2 yX2_lineUp wsX2_lineUp) := goodIn_app (goodIn_of _ (by decide +kernel)) ggX5_round_X2_lineUp
set_option maxRecDepth 20000 in
theorem ggX5_round_X0_next : GoodIn wsX5_round wsX0_next := goodIn_r _ [70, 49, 71, 152] (by decide +kernel) (by decide +kernel)
set_option maxRecDepth 20000 in
theorem gX5_round_X0_next : GoodIn wsX5_round (wsV RX5 131 RX0 yX0_next wsX0_next) := goodIn_app (goodIn_of _ (by decide +kernel)) ggX5_round_X0_next
set_option maxRecDepth 20000 in
theorem ggX5_round_X2_takeOut : GoodIn wsX5_round wsX2_takeOut := goodIn_r _ [75, 66, 55, 135, 136] (by decide +kernel) (by decide +kernel)
set_option maxRecDepth 20000 in
theorem gX5_round_X2_takeOut : GoodIn wsX5_round (wsV RX5 135 RX2 yX2_takeOut wsX2_takeOut) := goodIn_app (goodIn_of _ (by decide +kernel)) ggX5_round_X2_takeOut
set_option maxRecDepth 20000 in
theorem ggX5_round_X4_fight : GoodIn wsX5_round wsX4_fight := goodIn_r _ [79, 80, 81, 82, 83, 84, 85, 86, 87, 88, 89, 25, 90, 39, 91, 92, 93, 47, 94, 95, 68, 69, 70, 49, 71, 96, 97, 98, 99, 34, 43, 35, 36, 100, 101, 102, 103, 104, 105, 106, 107, 108, 109, 110, 42, 111, 112, 113, 114, 37, 38, 115, 116, 117, 118, 40, 119, 120, 121, 122, 123, 124, 125, 126, 139, 140, 141, 142, 143, 144, 145, 146, 147, 148, 149, 150, 151, 152] (by decide +kernel) (by decide +kernel)
set_option maxRecDepth 20000 in
theorem gX5_round_X4_fight : GoodIn wsX5_round (wsV RX5 120 RX4 yX4_fight wsX4_fight) := goodIn_app (goodIn_of _ (by decide +kernel)) ggX5_round_X4_fight
theorem dX5_round_0 : decode cX5_round 0 = .ok (.iload_n 1, 1) := by decide +kernel
theorem dX5_round_1 : decode cX5_round 1 = .ok (.iconst 0, 1) := by decide +kernel
theorem dX5_round_2 : decode cX5_round 2 = .ok (.ldc 124, 2) := by decide +kernel
theorem dX5_round_4 : decode cX5_round 4 = .ok (.invokestatic 58, 3) := by decide +kernel
theorem dX5_round_7 : decode cX5_round 7 = .ok (.ifCond .ne 6, 3) := by decide +kernel
theorem dX5_round_10 : decode cX5_round 10 = .ok (.bipush (-2), 2) := by decide +kernel
theorem dX5_round_12 : decode cX5_round 12 = .ok (.ireturn, 1) := by decide +kernel
theorem dX5_round_13 : decode cX5_round 13 = .ok (.aload_n 0, 1) := by decide +kernel
theorem dX5_round_14 : decode cX5_round 14 = .ok (.getfield 25, 3) := by decide +kernel
theorem dX5_round_17 : decode cX5_round 17 = .ok (.aload_n 0, 1) := by decide +kernel
theorem dX5_round_18 : decode cX5_round 18 = .ok (.getfield 10, 3) := by decide +kernel
theorem dX5_round_21 : decode cX5_round 21 = .ok (.invokevirtual 70, 3) := by decide +kernel
theorem dX5_round_24 : decode cX5_round 24 = .ok (.aload_n 0, 1) := by decide +kernel
theorem dX5_round_25 : decode cX5_round 25 = .ok (.getfield 39, 3) := by decide +kernel
theorem dX5_round_28 : decode cX5_round 28 = .ok (.iload_n 1, 1) := by decide +kernel
theorem dX5_round_29 : decode cX5_round 29 = .ok (.invokevirtual 116, 3) := by decide +kernel
theorem dX5_round_32 : decode cX5_round 32 = .ok (.aload_n 0, 1) := by decide +kernel
theorem dX5_round_33 : decode cX5_round 33 = .ok (.getfield 46, 3) := by decide +kernel
theorem dX5_round_36 : decode cX5_round 36 = .ok (.aload_n 0, 1) := by decide +kernel
theorem dX5_round_37 : decode cX5_round 37 = .ok (.getfield 10, 3) := by decide +kernel
theorem dX5_round_40 : decode cX5_round 40 = .ok (.invokevirtual 125, 3) := by decide +kernel
theorem dX5_round_43 : decode cX5_round 43 = .ok (.iconst 0, 1) := by decide +kernel
theorem dX5_round_44 : decode cX5_round 44 = .ok (.istore_n 2, 1) := by decide +kernel
theorem dX5_round_45 : decode cX5_round 45 = .ok (.iload_n 2, 1) := by decide +kernel
theorem dX5_round_46 : decode cX5_round 46 = .ok (.bipush 6, 2) := by decide +kernel
theorem dX5_round_48 : decode cX5_round 48 = .ok (.if_icmp .ge 72, 3) := by decide +kernel
theorem dX5_round_51 : decode cX5_round 51 = .ok (.aload_n 0, 1) := by decide +kernel
theorem dX5_round_52 : decode cX5_round 52 = .ok (.getfield 46, 3) := by decide +kernel
theorem dX5_round_55 : decode cX5_round 55 = .ok (.getfield 128, 3) := by decide +kernel
theorem dX5_round_58 : decode cX5_round 58 = .ok (.iconst 2, 1) := by decide +kernel
theorem dX5_round_59 : decode cX5_round 59 = .ok (.if_icmp .lt 61, 3) := by decide +kernel
theorem dX5_round_62 : decode cX5_round 62 = .ok (.aload_n 0, 1) := by decide +kernel
theorem dX5_round_63 : decode cX5_round 63 = .ok (.getfield 46, 3) := by decide +kernel
theorem dX5_round_66 : decode cX5_round 66 = .ok (.iconst 1, 1) := by decide +kernel
theorem dX5_round_67 : decode cX5_round 67 = .ok (.aload_n 0, 1) := by decide +kernel
theorem dX5_round_68 : decode cX5_round 68 = .ok (.getfield 39, 3) := by decide +kernel
theorem dX5_round_71 : decode cX5_round 71 = .ok (.invokevirtual 131, 3) := by decide +kernel
theorem dX5_round_74 : decode cX5_round 74 = .ok (.aload_n 0, 1) := by decide +kernel
theorem dX5_round_75 : decode cX5_round 75 = .ok (.getfield 46, 3) := by decide +kernel
theorem dX5_round_78 : decode cX5_round 78 = .ok (.getfield 128, 3) := by decide +kernel
theorem dX5_round_81 : decode cX5_round 81 = .ok (.iconst 1, 1) := by decide +kernel
theorem dX5_round_82 : decode cX5_round 82 = .ok (.isub, 1) := by decide +kernel
theorem dX5_round_83 : decode cX5_round 83 = .ok (.irem, 1) := by decide +kernel
theorem dX5_round_84 : decode cX5_round 84 = .ok (.iadd, 1) := by decide +kernel
theorem dX5_round_85 : decode cX5_round 85 = .ok (.invokevirtual 135, 3) := by decide +kernel
theorem dX5_round_88 : decode cX5_round 88 = .ok (.istore_n 3, 1) := by decide +kernel
theorem dX5_round_89 : decode cX5_round 89 = .ok (.aload_n 0, 1) := by decide +kernel
theorem dX5_round_90 : decode cX5_round 90 = .ok (.getfield 46, 3) := by decide +kernel
theorem dX5_round_93 : decode cX5_round 93 = .ok (.iconst 0, 1) := by decide +kernel
theorem dX5_round_94 : decode cX5_round 94 = .ok (.invokevirtual 135, 3) := by decide +kernel
theorem dX5_round_97 : decode cX5_round 97 = .ok (.istore 4, 2) := by decide +kernel
theorem dX5_round_99 : decode cX5_round 99 = .ok (.aload_n 0, 1) := by decide +kernel
theorem dX5_round_100 : decode cX5_round 100 = .ok (.getfield 10, 3) := by decide +kernel
theorem dX5_round_103 : decode cX5_round 103 = .ok (.iload 4, 2) := by decide +kernel
theorem dX5_round_105 : decode cX5_round 105 = .ok (.iload_n 3, 1) := by decide +kernel
theorem dX5_round_106 : decode cX5_round 106 = .ok (.aload_n 0, 1) := by decide +kernel
theorem dX5_round_107 : decode cX5_round 107 = .ok (.getfield 39, 3) := by decide +kernel
theorem dX5_round_110 : decode cX5_round 110 = .ok (.invokevirtual 120, 3) := by decide +kernel
theorem dX5_round_113 : decode cX5_round 113 = .ok (.pop, 1) := by decide +kernel
theorem dX5_round_114 : decode cX5_round 114 = .ok (.iinc 2 1, 3) := by decide +kernel
theorem dX5_round_117 : decode cX5_round 117 = .ok (.goto (-72), 3) := by decide +kernel
theorem dX5_round_120 : decode cX5_round 120 = .ok (.iload_n 2, 1) := by decide +kernel
theorem dX5_round_121 : decode cX5_round 121 = .ok (.ireturn, 1) := by decide +kernel
set_option maxRecDepth 20000 in
theorem ggX5_undo_X1_bringBack : GoodIn wsX5_undo wsX1_bringBack := goodIn_r _ [7, 8, 9, 10, 11, 12, 13, 14, 15, 16, 17, 18, 19, 20, 21, 22, 23, 24, 25, 26, 27, 28, 29, 30, 31, 40, 41, 42, 43, 44, 45, 46, 47, 48, 49, 50, 51, 52, 53, 54] (by decide +kernel) (by decide +kernel)
set_option maxRecDepth 20000 in
theorem gX5_undo_X1_bringBack : GoodIn wsX5_undo (wsV RX5 160 RX1 yX1_bringBack wsX1_bringBack) := goodIn_app (goodIn_of _ (by decide +kernel)) ggX5_undo_X1_bringBack
theorem dX5_undo_0 : decode cX5_undo 0 = .ok (.aload_n 0, 1) := by decide +kernel
theorem dX5_undo_1 : decode cX5_undo 1 = .ok (.getfield 25, 3) := by decide +kernel
theorem dX5_undo_4 : decode cX5_undo 4 = .ok (.aload_n 0, 1) := by decide +kernel
theorem dX5_undo_5 : decode cX5_undo 5 = .ok (.getfield 10, 3) := by decide +kernel
theorem dX5_undo_8 : decode cX5_undo 8 = .ok (.invokevirtual 160, 3) := by decide +kernel
theorem dX5_undo_11 : decode cX5_undo 11 = .ok (.ireturn, 1) := by decide +kernel
set_option maxRecDepth 20000 in
theorem ggX5_conker_X4_hasConker : GoodIn wsX5_conker wsX4_hasConker := goodIn_r _ [14, 15, 16, 17, 18, 32, 33, 34, 35, 36, 37, 38, 39, 40, 41, 42, 43, 44] (by decide +kernel) (by decide +kernel)
set_option maxRecDepth 20000 in
theorem gX5_conker_X4_hasConker : GoodIn wsX5_conker (wsV RX5 98 RX4 yX4_hasConker wsX4_hasConker) := goodIn_app (goodIn_of _ (by decide +kernel)) ggX5_conker_X4_hasConker
set_option maxRecDepth 20000 in
theorem ggX5_conker_X4_conkersSmashedBy : GoodIn wsX5_conker wsX4_conkersSmashedBy := goodIn_r _ [22, 15, 23, 32, 33, 34, 35, 36, 37, 38, 39, 40, 41, 42, 43, 44] (by decide +kernel) (by decide +kernel)
set_option maxRecDepth 20000 in
theorem gX5_conker_X4_conkersSmashedBy : GoodIn wsX5_conker (wsV RX5 185 RX4 yX4_conkersSmashedBy wsX4_conkersSmashedBy) := goodIn_app (goodIn_of _ (by decide +kernel)) ggX5_conker_X4_conkersSmashedBy
theorem dX5_conker_0 : decode cX5_conker 0 = .ok (.aload_n 0, 1) := by decide +kernel
theorem dX5_conker_1 : decode cX5_conker 1 = .ok (.getfield 10, 3) := by decide +kernel
theorem dX5_conker_4 : decode cX5_conker 4 = .ok (.iload_n 1, 1) := by decide +kernel
theorem dX5_conker_5 : decode cX5_conker 5 = .ok (.invokevirtual 98, 3) := by decide +kernel
theorem dX5_conker_8 : decode cX5_conker 8 = .ok (.ifCond .ne 5, 3) := by decide +kernel
theorem dX5_conker_11 : decode cX5_conker 11 = .ok (.iconst (-1), 1) := by decide +kernel
theorem dX5_conker_12 : decode cX5_conker 12 = .ok (.ireturn, 1) := by decide +kernel
theorem dX5_conker_13 : decode cX5_conker 13 = .ok (.iload_n 2, 1) := by decide +kernel
theorem dX5_conker_14 : decode cX5_conker 14 = .ok (.tableswitch 139 0 8 #[50, 60, 70, 80, 90, 100, 110, 120, 130], 50) := by decide +kernel
theorem dX5_conker_64 : decode cX5_conker 64 = .ok (.aload_n 0, 1) := by decide +kernel
theorem dX5_conker_65 : decode cX5_conker 65 = .ok (.getfield 10, 3) := by decide +kernel
theorem dX5_conker_68 : decode cX5_conker 68 = .ok (.getfield 107, 3) := by decide +kernel
theorem dX5_conker_71 : decode cX5_conker 71 = .ok (.iload_n 1, 1) := by decide +kernel
theorem dX5_conker_72 : decode cX5_conker 72 = .ok (.iaload, 1) := by decide +kernel
theorem dX5_conker_73 : decode cX5_conker 73 = .ok (.ireturn, 1) := by decide +kernel
theorem dX5_conker_74 : decode cX5_conker 74 = .ok (.aload_n 0, 1) := by decide +kernel
theorem dX5_conker_75 : decode cX5_conker 75 = .ok (.getfield 10, 3) := by decide +kernel
theorem dX5_conker_78 : decode cX5_conker 78 = .ok (.getfield 170, 3) := by decide +kernel
theorem dX5_conker_81 : decode cX5_conker 81 = .ok (.iload_n 1, 1) := by decide +kernel
theorem dX5_conker_82 : decode cX5_conker 82 = .ok (.iaload, 1) := by decide +kernel
theorem dX5_conker_83 : decode cX5_conker 83 = .ok (.ireturn, 1) := by decide +kernel
theorem dX5_conker_84 : decode cX5_conker 84 = .ok (.aload_n 0, 1) := by decide +kernel
theorem dX5_conker_85 : decode cX5_conker 85 = .ok (.getfield 10, 3) := by decide +kernel
theorem dX5_conker_88 : decode cX5_conker 88 = .ok (.getfield 173, 3) := by decide +kernel
theorem dX5_conker_91 : decode cX5_conker 91 = .ok (.iload_n 1, 1) := by decide +kernel
theorem dX5_conker_92 : decode cX5_conker 92 = .ok (.iaload, 1) := by decide +kernel
theorem dX5_conker_93 : decode cX5_conker 93 = .ok (.ireturn, 1) := by decide +kernel
theorem dX5_conker_94 : decode cX5_conker 94 = .ok (.aload_n 0, 1) := by decide +kernel
theorem dX5_conker_95 : decode cX5_conker 95 = .ok (.getfield 10, 3) := by decide +kernel
theorem dX5_conker_98 : decode cX5_conker 98 = .ok (.getfield 176, 3) := by decide +kernel
theorem dX5_conker_101 : decode cX5_conker 101 = .ok (.iload_n 1, 1) := by decide +kernel
theorem dX5_conker_102 : decode cX5_conker 102 = .ok (.iaload, 1) := by decide +kernel
theorem dX5_conker_103 : decode cX5_conker 103 = .ok (.ireturn, 1) := by decide +kernel
theorem dX5_conker_104 : decode cX5_conker 104 = .ok (.aload_n 0, 1) := by decide +kernel
theorem dX5_conker_105 : decode cX5_conker 105 = .ok (.getfield 10, 3) := by decide +kernel
theorem dX5_conker_108 : decode cX5_conker 108 = .ok (.getfield 179, 3) := by decide +kernel
theorem dX5_conker_111 : decode cX5_conker 111 = .ok (.iload_n 1, 1) := by decide +kernel
theorem dX5_conker_112 : decode cX5_conker 112 = .ok (.iaload, 1) := by decide +kernel
theorem dX5_conker_113 : decode cX5_conker 113 = .ok (.ireturn, 1) := by decide +kernel
theorem dX5_conker_114 : decode cX5_conker 114 = .ok (.aload_n 0, 1) := by decide +kernel
theorem dX5_conker_115 : decode cX5_conker 115 = .ok (.getfield 10, 3) := by decide +kernel
theorem dX5_conker_118 : decode cX5_conker 118 = .ok (.getfield 104, 3) := by decide +kernel
theorem dX5_conker_121 : decode cX5_conker 121 = .ok (.iload_n 1, 1) := by decide +kernel
theorem dX5_conker_122 : decode cX5_conker 122 = .ok (.iaload, 1) := by decide +kernel
theorem dX5_conker_123 : decode cX5_conker 123 = .ok (.ireturn, 1) := by decide +kernel
theorem dX5_conker_124 : decode cX5_conker 124 = .ok (.aload_n 0, 1) := by decide +kernel
theorem dX5_conker_125 : decode cX5_conker 125 = .ok (.getfield 10, 3) := by decide +kernel
theorem dX5_conker_128 : decode cX5_conker 128 = .ok (.getfield 101, 3) := by decide +kernel
theorem dX5_conker_131 : decode cX5_conker 131 = .ok (.iload_n 1, 1) := by decide +kernel
theorem dX5_conker_132 : decode cX5_conker 132 = .ok (.iaload, 1) := by decide +kernel
theorem dX5_conker_133 : decode cX5_conker 133 = .ok (.ireturn, 1) := by decide +kernel
theorem dX5_conker_134 : decode cX5_conker 134 = .ok (.aload_n 0, 1) := by decide +kernel
theorem dX5_conker_135 : decode cX5_conker 135 = .ok (.getfield 10, 3) := by decide +kernel
theorem dX5_conker_138 : decode cX5_conker 138 = .ok (.getfield 182, 3) := by decide +kernel
theorem dX5_conker_141 : decode cX5_conker 141 = .ok (.iload_n 1, 1) := by decide +kernel
theorem dX5_conker_142 : decode cX5_conker 142 = .ok (.iaload, 1) := by decide +kernel
theorem dX5_conker_143 : decode cX5_conker 143 = .ok (.ireturn, 1) := by decide +kernel
theorem dX5_conker_144 : decode cX5_conker 144 = .ok (.aload_n 0, 1) := by decide +kernel
theorem dX5_conker_145 : decode cX5_conker 145 = .ok (.getfield 10, 3) := by decide +kernel
theorem dX5_conker_148 : decode cX5_conker 148 = .ok (.iload_n 1, 1) := by decide +kernel
theorem dX5_conker_149 : decode cX5_conker 149 = .ok (.invokevirtual 185, 3) := by decide +kernel
theorem dX5_conker_152 : decode cX5_conker 152 = .ok (.ireturn, 1) := by decide +kernel
theorem dX5_conker_153 : decode cX5_conker 153 = .ok (.bipush (-2), 2) := by decide +kernel
theorem dX5_conker_155 : decode cX5_conker 155 = .ok (.ireturn, 1) := by decide +kernel
set_option maxRecDepth 20000 in
theorem ggX5_player_X5_isPlayer : GoodIn wsX5_player wsX5_isPlayer := goodIn_r _ [7, 8, 9, 6, 10] (by decide +kernel) (by decide +kernel)
set_option maxRecDepth 20000 in
theorem gX5_player_X5_isPlayer : GoodIn wsX5_player (va_wsS RX5 54 yX5_isPlayer wsX5_isPlayer) := goodIn_app (goodIn_of _ (by decide +kernel)) ggX5_player_X5_isPlayer
set_option maxRecDepth 20000 in
theorem ggX5_player_X4_conkersBeing : GoodIn wsX5_player wsX4_conkersBeing := goodIn_r _ [15, 16, 17, 18, 19, 20, 14, 21, 22, 40, 41, 42, 43, 44, 45, 46, 47, 48, 49, 50, 51, 52] (by decide +kernel) (by decide +kernel)
set_option maxRecDepth 20000 in
theorem gX5_player_X4_conkersBeing : GoodIn wsX5_player (wsV RX5 167 RX4 yX4_conkersBeing wsX4_conkersBeing) := goodIn_app (goodIn_of _ (by decide +kernel)) ggX5_player_X4_conkersBeing
set_option maxRecDepth 20000 in
theorem ggX5_player_X4_victoriesOf : GoodIn wsX5_player wsX4_victoriesOf := goodIn_r _ [26, 16, 27, 18, 19, 20, 14, 21, 22, 40, 41, 42, 43, 44, 45, 46, 47, 48, 49, 50, 51, 52] (by decide +kernel) (by decide +kernel)
set_option maxRecDepth 20000 in
theorem gX5_player_X4_victoriesOf : GoodIn wsX5_player (wsV RX5 191 RX4 yX4_victoriesOf wsX4_victoriesOf) := goodIn_app (goodIn_of _ (by decide +kernel)) ggX5_player_X4_victoriesOf
set_option maxRecDepth 20000 in
theorem ggX5_player_X4_conkerToSend : GoodIn wsX5_player wsX4_conkerToSend := goodIn_r _ [31, 16, 17, 22, 27, 40, 41, 42, 43, 44, 45, 46, 47, 48, 49, 50, 51, 52] (by decide +kernel) (by decide +kernel)
set_option maxRecDepth 20000 in
theorem gX5_player_X4_conkerToSend : GoodIn wsX5_player (wsV RX5 194 RX4 yX4_conkerToSend wsX4_conkerToSend) := goodIn_app (goodIn_of _ (by decide +kernel)) ggX5_player_X4_conkerToSend
theorem dX5_player_0 : decode cX5_player 0 = .ok (.iload_n 1, 1) := by decide +kernel
theorem dX5_player_1 : decode cX5_player 1 = .ok (.invokestatic 54, 3) := by decide +kernel
theorem dX5_player_4 : decode cX5_player 4 = .ok (.ifCond .ne 5, 3) := by decide +kernel
theorem dX5_player_7 : decode cX5_player 7 = .ok (.iconst (-1), 1) := by decide +kernel
theorem dX5_player_8 : decode cX5_player 8 = .ok (.ireturn, 1) := by decide +kernel
theorem dX5_player_9 : decode cX5_player 9 = .ok (.iload_n 2, 1) := by decide +kernel
theorem dX5_player_10 : decode cX5_player 10 = .ok (.tableswitch 110 0 6 #[42, 52, 62, 72, 82, 92, 101], 42) := by decide +kernel
theorem dX5_player_52 : decode cX5_player 52 = .ok (.aload_n 0, 1) := by decide +kernel
theorem dX5_player_53 : decode cX5_player 53 = .ok (.getfield 10, 3) := by decide +kernel
theorem dX5_player_56 : decode cX5_player 56 = .ok (.getfield 62, 3) := by decide +kernel
theorem dX5_player_59 : decode cX5_player 59 = .ok (.iload_n 1, 1) := by decide +kernel
theorem dX5_player_60 : decode cX5_player 60 = .ok (.iaload, 1) := by decide +kernel
theorem dX5_player_61 : decode cX5_player 61 = .ok (.ireturn, 1) := by decide +kernel
theorem dX5_player_62 : decode cX5_player 62 = .ok (.aload_n 0, 1) := by decide +kernel
theorem dX5_player_63 : decode cX5_player 63 = .ok (.getfield 10, 3) := by decide +kernel
theorem dX5_player_66 : decode cX5_player 66 = .ok (.getfield 188, 3) := by decide +kernel
theorem dX5_player_69 : decode cX5_player 69 = .ok (.iload_n 1, 1) := by decide +kernel
theorem dX5_player_70 : decode cX5_player 70 = .ok (.iaload, 1) := by decide +kernel
theorem dX5_player_71 : decode cX5_player 71 = .ok (.ireturn, 1) := by decide +kernel
theorem dX5_player_72 : decode cX5_player 72 = .ok (.aload_n 0, 1) := by decide +kernel
theorem dX5_player_73 : decode cX5_player 73 = .ok (.getfield 10, 3) := by decide +kernel
theorem dX5_player_76 : decode cX5_player 76 = .ok (.iconst 0, 1) := by decide +kernel
theorem dX5_player_77 : decode cX5_player 77 = .ok (.iload_n 1, 1) := by decide +kernel
theorem dX5_player_78 : decode cX5_player 78 = .ok (.invokevirtual 167, 3) := by decide +kernel
theorem dX5_player_81 : decode cX5_player 81 = .ok (.ireturn, 1) := by decide +kernel
theorem dX5_player_82 : decode cX5_player 82 = .ok (.aload_n 0, 1) := by decide +kernel
theorem dX5_player_83 : decode cX5_player 83 = .ok (.getfield 10, 3) := by decide +kernel
theorem dX5_player_86 : decode cX5_player 86 = .ok (.iconst 1, 1) := by decide +kernel
theorem dX5_player_87 : decode cX5_player 87 = .ok (.iload_n 1, 1) := by decide +kernel
theorem dX5_player_88 : decode cX5_player 88 = .ok (.invokevirtual 167, 3) := by decide +kernel
theorem dX5_player_91 : decode cX5_player 91 = .ok (.ireturn, 1) := by decide +kernel
theorem dX5_player_92 : decode cX5_player 92 = .ok (.aload_n 0, 1) := by decide +kernel
theorem dX5_player_93 : decode cX5_player 93 = .ok (.getfield 10, 3) := by decide +kernel
theorem dX5_player_96 : decode cX5_player 96 = .ok (.iconst 2, 1) := by decide +kernel
theorem dX5_player_97 : decode cX5_player 97 = .ok (.iload_n 1, 1) := by decide +kernel
theorem dX5_player_98 : decode cX5_player 98 = .ok (.invokevirtual 167, 3) := by decide +kernel
theorem dX5_player_101 : decode cX5_player 101 = .ok (.ireturn, 1) := by decide +kernel
theorem dX5_player_102 : decode cX5_player 102 = .ok (.aload_n 0, 1) := by decide +kernel
theorem dX5_player_103 : decode cX5_player 103 = .ok (.getfield 10, 3) := by decide +kernel
theorem dX5_player_106 : decode cX5_player 106 = .ok (.iload_n 1, 1) := by decide +kernel
theorem dX5_player_107 : decode cX5_player 107 = .ok (.invokevirtual 191, 3) := by decide +kernel
theorem dX5_player_110 : decode cX5_player 110 = .ok (.ireturn, 1) := by decide +kernel
theorem dX5_player_111 : decode cX5_player 111 = .ok (.aload_n 0, 1) := by decide +kernel
theorem dX5_player_112 : decode cX5_player 112 = .ok (.getfield 10, 3) := by decide +kernel
theorem dX5_player_115 : decode cX5_player 115 = .ok (.iload_n 1, 1) := by decide +kernel
theorem dX5_player_116 : decode cX5_player 116 = .ok (.invokevirtual 194, 3) := by decide +kernel
theorem dX5_player_119 : decode cX5_player 119 = .ok (.ireturn, 1) := by decide +kernel
theorem dX5_player_120 : decode cX5_player 120 = .ok (.bipush (-2), 2) := by decide +kernel
theorem dX5_player_122 : decode cX5_player 122 = .ok (.ireturn, 1) := by decide +kernel
set_option maxRecDepth 20000 in
theorem ggX5_ranked_X4_conkerAtRank : GoodIn wsX5_ranked wsX4_conkerAtRank := goodIn_r _ [6, 7, 8, 9, 10, 11, 5, 12, 13, 22, 23, 24, 25, 26, 27, 28, 29, 30, 31, 32, 33, 34] (by decide +kernel) (by decide +kernel)
set_option maxRecDepth 20000 in
theorem gX5_ranked_X4_conkerAtRank : GoodIn wsX5_ranked (wsV RX5 197 RX4 yX4_conkerAtRank wsX4_conkerAtRank) := goodIn_app (goodIn_of _ (by decide +kernel)) ggX5_ranked_X4_conkerAtRank
theorem dX5_ranked_0 : decode cX5_ranked 0 = .ok (.iload_n 1, 1) := by decide +kernel
theorem dX5_ranked_1 : decode cX5_ranked 1 = .ok (.ifCond .ge 6, 3) := by decide +kernel
theorem dX5_ranked_4 : decode cX5_ranked 4 = .ok (.bipush (-2), 2) := by decide +kernel
theorem dX5_ranked_6 : decode cX5_ranked 6 = .ok (.ireturn, 1) := by decide +kernel
theorem dX5_ranked_7 : decode cX5_ranked 7 = .ok (.aload_n 0, 1) := by decide +kernel
theorem dX5_ranked_8 : decode cX5_ranked 8 = .ok (.getfield 10, 3) := by decide +kernel
theorem dX5_ranked_11 : decode cX5_ranked 11 = .ok (.iload_n 1, 1) := by decide +kernel
theorem dX5_ranked_12 : decode cX5_ranked 12 = .ok (.invokevirtual 197, 3) := by decide +kernel
theorem dX5_ranked_15 : decode cX5_ranked 15 = .ok (.ireturn, 1) := by decide +kernel
set_option maxRecDepth 20000 in
theorem ggX5_line_X4_hasConker : GoodIn wsX5_line wsX4_hasConker := goodIn_r _ [6, 7, 8, 9, 10, 29, 30, 31, 32, 33, 34, 35, 36, 37, 38, 39, 40, 41] (by decide +kernel) (by decide +kernel)
set_option maxRecDepth 20000 in
theorem gX5_line_X4_hasConker : GoodIn wsX5_line (wsV RX5 98 RX4 yX4_hasConker wsX4_hasConker) := goodIn_app (goodIn_of _ (by decide +kernel)) ggX5_line_X4_hasConker
set_option maxRecDepth 20000 in
theorem ggX5_line_X4_lengthOfLine : GoodIn wsX5_line wsX4_lengthOfLine := goodIn_r _ [14, 7, 15, 16, 17, 5, 18, 19, 20, 3, 4, 6, 8, 9, 10, 29, 30, 31, 32, 33, 34, 35, 36, 37, 38, 39, 40, 41] (by decide +kernel) (by decide +kernel)
set_option maxRecDepth 20000 in
theorem gX5_line_X4_lengthOfLine : GoodIn wsX5_line (wsV RX5 200 RX4 yX4_lengthOfLine wsX4_lengthOfLine) := goodIn_app (goodIn_of _ (by decide +kernel)) ggX5_line_X4_lengthOfLine
theorem dX5_line_0 : decode cX5_line 0 = .ok (.aload_n 0, 1) := by decide +kernel
theorem dX5_line_1 : decode cX5_line 1 = .ok (.getfield 10, 3) := by decide +kernel
theorem dX5_line_4 : decode cX5_line 4 = .ok (.iload_n 1, 1) := by decide +kernel
theorem dX5_line_5 : decode cX5_line 5 = .ok (.invokevirtual 98, 3) := by decide +kernel
theorem dX5_line_8 : decode cX5_line 8 = .ok (.ifCond .ne 5, 3) := by decide +kernel
theorem dX5_line_11 : decode cX5_line 11 = .ok (.iconst (-1), 1) := by decide +kernel
theorem dX5_line_12 : decode cX5_line 12 = .ok (.ireturn, 1) := by decide +kernel
theorem dX5_line_13 : decode cX5_line 13 = .ok (.aload_n 0, 1) := by decide +kernel
theorem dX5_line_14 : decode cX5_line 14 = .ok (.getfield 10, 3) := by decide +kernel
theorem dX5_line_17 : decode cX5_line 17 = .ok (.iload_n 1, 1) := by decide +kernel
theorem dX5_line_18 : decode cX5_line 18 = .ok (.invokevirtual 200, 3) := by decide +kernel
theorem dX5_line_21 : decode cX5_line 21 = .ok (.ireturn, 1) := by decide +kernel
set_option maxRecDepth 20000 in
theorem ggX5_count_X4_conkersBeing : GoodIn wsX5_count wsX4_conkersBeing := goodIn_r _ [13, 14, 15, 16, 17, 18, 12, 19, 20, 52, 53, 54, 55, 56, 57, 58, 59, 60, 61, 62, 63, 64] (by decide +kernel) (by decide +kernel)
set_option maxRecDepth 20000 in
theorem gX5_count_X4_conkersBeing : GoodIn wsX5_count (wsV RX5 167 RX4 yX4_conkersBeing wsX4_conkersBeing) := goodIn_app (goodIn_of _ (by decide +kernel)) ggX5_count_X4_conkersBeing
set_option maxRecDepth 20000 in
theorem ggX5_count_X4_victoriesOf : GoodIn wsX5_count wsX4_victoriesOf := goodIn_r _ [24, 14, 25, 16, 17, 18, 12, 19, 20, 52, 53, 54, 55, 56, 57, 58, 59, 60, 61, 62, 63, 64] (by decide +kernel) (by decide +kernel)
set_option maxRecDepth 20000 in
theorem gX5_count_X4_victoriesOf : GoodIn wsX5_count (wsV RX5 191 RX4 yX4_victoriesOf wsX4_victoriesOf) := goodIn_app (goodIn_of _ (by decide +kernel)) ggX5_count_X4_victoriesOf
set_option maxRecDepth 20000 in
theorem ggX5_count_X4_conkersWithHeir : GoodIn wsX5_count wsX4_conkersWithHeir := goodIn_r _ [29, 14, 30, 31, 32, 12, 33, 34, 52, 53, 54, 55, 56, 57, 58, 59, 60, 61, 62, 63, 64] (by decide +kernel) (by decide +kernel)
set_option maxRecDepth 20000 in
theorem gX5_count_X4_conkersWithHeir : GoodIn wsX5_count (wsV RX5 209 RX4 yX4_conkersWithHeir wsX4_conkersWithHeir) := goodIn_app (goodIn_of _ (by decide +kernel)) ggX5_count_X4_conkersWithHeir
set_option maxRecDepth 20000 in
theorem ggX5_count_X4_boastsTold : GoodIn wsX5_count wsX4_boastsTold := goodIn_r _ [38, 14, 39, 52, 53, 54, 55, 56, 57, 58, 59, 60, 61, 62, 63, 64] (by decide +kernel) (by decide +kernel)
set_option maxRecDepth 20000 in
theorem gX5_count_X4_boastsTold : GoodIn wsX5_count (wsV RX5 212 RX4 yX4_boastsTold wsX4_boastsTold) := goodIn_app (goodIn_of _ (by decide +kernel)) ggX5_count_X4_boastsTold
set_option maxRecDepth 20000 in
theorem ggX5_count_X4_boastsTooHigh : GoodIn wsX5_count wsX4_boastsTooHigh := goodIn_r _ [43, 14, 39, 25, 52, 53, 54, 55, 56, 57, 58, 59, 60, 61, 62, 63, 64] (by decide +kernel) (by decide +kernel)
set_option maxRecDepth 20000 in
theorem gX5_count_X4_boastsTooHigh : GoodIn wsX5_count (wsV RX5 215 RX4 yX4_boastsTooHigh wsX4_boastsTooHigh) := goodIn_app (goodIn_of _ (by decide +kernel)) ggX5_count_X4_boastsTooHigh
theorem dX5_count_0 : decode cX5_count 0 = .ok (.iload_n 1, 1) := by decide +kernel
theorem dX5_count_1 : decode cX5_count 1 = .ok (.tableswitch 166 0 11 #[63, 71, 81, 91, 101, 110, 118, 126, 134, 142, 150, 158], 63) := by decide +kernel
theorem dX5_count_64 : decode cX5_count 64 = .ok (.aload_n 0, 1) := by decide +kernel
theorem dX5_count_65 : decode cX5_count 65 = .ok (.getfield 10, 3) := by decide +kernel
theorem dX5_count_68 : decode cX5_count 68 = .ok (.getfield 66, 3) := by decide +kernel
theorem dX5_count_71 : decode cX5_count 71 = .ok (.ireturn, 1) := by decide +kernel
theorem dX5_count_72 : decode cX5_count 72 = .ok (.aload_n 0, 1) := by decide +kernel
theorem dX5_count_73 : decode cX5_count 73 = .ok (.getfield 10, 3) := by decide +kernel
theorem dX5_count_76 : decode cX5_count 76 = .ok (.iconst 0, 1) := by decide +kernel
theorem dX5_count_77 : decode cX5_count 77 = .ok (.iconst (-1), 1) := by decide +kernel
theorem dX5_count_78 : decode cX5_count 78 = .ok (.invokevirtual 167, 3) := by decide +kernel
theorem dX5_count_81 : decode cX5_count 81 = .ok (.ireturn, 1) := by decide +kernel
theorem dX5_count_82 : decode cX5_count 82 = .ok (.aload_n 0, 1) := by decide +kernel
theorem dX5_count_83 : decode cX5_count 83 = .ok (.getfield 10, 3) := by decide +kernel
theorem dX5_count_86 : decode cX5_count 86 = .ok (.iconst 1, 1) := by decide +kernel
theorem dX5_count_87 : decode cX5_count 87 = .ok (.iconst (-1), 1) := by decide +kernel
theorem dX5_count_88 : decode cX5_count 88 = .ok (.invokevirtual 167, 3) := by decide +kernel
theorem dX5_count_91 : decode cX5_count 91 = .ok (.ireturn, 1) := by decide +kernel
theorem dX5_count_92 : decode cX5_count 92 = .ok (.aload_n 0, 1) := by decide +kernel
theorem dX5_count_93 : decode cX5_count 93 = .ok (.getfield 10, 3) := by decide +kernel
theorem dX5_count_96 : decode cX5_count 96 = .ok (.iconst 2, 1) := by decide +kernel
theorem dX5_count_97 : decode cX5_count 97 = .ok (.iconst (-1), 1) := by decide +kernel
theorem dX5_count_98 : decode cX5_count 98 = .ok (.invokevirtual 167, 3) := by decide +kernel
theorem dX5_count_101 : decode cX5_count 101 = .ok (.ireturn, 1) := by decide +kernel
theorem dX5_count_102 : decode cX5_count 102 = .ok (.aload_n 0, 1) := by decide +kernel
theorem dX5_count_103 : decode cX5_count 103 = .ok (.getfield 10, 3) := by decide +kernel
theorem dX5_count_106 : decode cX5_count 106 = .ok (.iconst (-1), 1) := by decide +kernel
theorem dX5_count_107 : decode cX5_count 107 = .ok (.invokevirtual 191, 3) := by decide +kernel
theorem dX5_count_110 : decode cX5_count 110 = .ok (.ireturn, 1) := by decide +kernel
theorem dX5_count_111 : decode cX5_count 111 = .ok (.aload_n 0, 1) := by decide +kernel
theorem dX5_count_112 : decode cX5_count 112 = .ok (.getfield 10, 3) := by decide +kernel
theorem dX5_count_115 : decode cX5_count 115 = .ok (.getfield 203, 3) := by decide +kernel
theorem dX5_count_118 : decode cX5_count 118 = .ok (.ireturn, 1) := by decide +kernel
theorem dX5_count_119 : decode cX5_count 119 = .ok (.aload_n 0, 1) := by decide +kernel
theorem dX5_count_120 : decode cX5_count 120 = .ok (.getfield 10, 3) := by decide +kernel
theorem dX5_count_123 : decode cX5_count 123 = .ok (.getfield 206, 3) := by decide +kernel
theorem dX5_count_126 : decode cX5_count 126 = .ok (.ireturn, 1) := by decide +kernel
theorem dX5_count_127 : decode cX5_count 127 = .ok (.aload_n 0, 1) := by decide +kernel
theorem dX5_count_128 : decode cX5_count 128 = .ok (.getfield 10, 3) := by decide +kernel
theorem dX5_count_131 : decode cX5_count 131 = .ok (.invokevirtual 209, 3) := by decide +kernel
theorem dX5_count_134 : decode cX5_count 134 = .ok (.ireturn, 1) := by decide +kernel
theorem dX5_count_135 : decode cX5_count 135 = .ok (.aload_n 0, 1) := by decide +kernel
theorem dX5_count_136 : decode cX5_count 136 = .ok (.getfield 10, 3) := by decide +kernel
theorem dX5_count_139 : decode cX5_count 139 = .ok (.invokevirtual 212, 3) := by decide +kernel
theorem dX5_count_142 : decode cX5_count 142 = .ok (.ireturn, 1) := by decide +kernel
theorem dX5_count_143 : decode cX5_count 143 = .ok (.aload_n 0, 1) := by decide +kernel
theorem dX5_count_144 : decode cX5_count 144 = .ok (.getfield 10, 3) := by decide +kernel
theorem dX5_count_147 : decode cX5_count 147 = .ok (.invokevirtual 215, 3) := by decide +kernel
theorem dX5_count_150 : decode cX5_count 150 = .ok (.ireturn, 1) := by decide +kernel
theorem dX5_count_151 : decode cX5_count 151 = .ok (.aload_n 0, 1) := by decide +kernel
theorem dX5_count_152 : decode cX5_count 152 = .ok (.getfield 25, 3) := by decide +kernel
theorem dX5_count_155 : decode cX5_count 155 = .ok (.getfield 218, 3) := by decide +kernel
theorem dX5_count_158 : decode cX5_count 158 = .ok (.ireturn, 1) := by decide +kernel
theorem dX5_count_159 : decode cX5_count 159 = .ok (.aload_n 0, 1) := by decide +kernel
theorem dX5_count_160 : decode cX5_count 160 = .ok (.getfield 32, 3) := by decide +kernel
theorem dX5_count_163 : decode cX5_count 163 = .ok (.getfield 138, 3) := by decide +kernel
end
section
theorem dX5_count_166 : decode cX5_count 166 = .ok (.ireturn, 1) := by decide +kernel
theorem dX5_count_167 : decode cX5_count 167 = .ok (.bipush (-2), 2) := by decide +kernel
theorem dX5_count_169 : decode cX5_count 169 = .ok (.ireturn, 1) := by decide +kernel
set_option maxRecDepth 20000 in
theorem ggX5_ifStruck_X4_strikeError : GoodIn wsX5_ifStruck wsX4_strikeError := goodIn_r _ [6, 7, 8, 9, 10, 11, 12, 5, 13, 14, 15, 16, 17, 18, 19, 20, 21, 22, 23, 24, 91, 92, 93, 94, 95, 96, 97, 98, 99, 100, 101, 102, 103] (by decide +kernel) (by decide +kernel)
set_option maxRecDepth 20000 in
theorem gX5_ifStruck_X4_strikeError : GoodIn wsX5_ifStruck (wsV RX5 78 RX4 yX4_strikeError wsX4_strikeError) := goodIn_app (goodIn_of _ (by decide +kernel)) ggX5_ifStruck_X4_strikeError
set_option maxRecDepth 20000 in
theorem ggX5_ifStruck_X5_tryHit : GoodIn wsX5_ifStruck wsX5_tryHit := goodIn_r _ [28, 29, 1, 30, 31, 32, 5, 33, 34, 35, 36, 37, 38, 39, 14, 40, 41, 42, 43, 44, 24, 45, 19, 46, 47, 48, 49, 50, 51, 52, 53, 54, 55, 56, 57, 58, 59, 60, 61, 62, 63, 64, 65, 66, 67, 68, 69, 70, 71, 72, 73, 74, 75, 76, 77, 78, 79, 80, 81, 82, 83, 84, 85, 86, 87, 88, 89, 90, 91, 92, 93, 94, 95, 96, 97, 98, 99, 100, 101, 102, 103] (by decide +kernel) (by decide +kernel)
set_option maxRecDepth 20000 in
theorem gX5_ifStruck_X5_tryHit : GoodIn wsX5_ifStruck (wsV RX5 221 RX5 yX5_tryHit wsX5_tryHit) := goodIn_app (goodIn_of _ (by decide +kernel)) ggX5_ifStruck_X5_tryHit
theorem dX5_ifStruck_0 : decode cX5_ifStruck 0 = .ok (.aload_n 0, 1) := by decide +kernel
theorem dX5_ifStruck_1 : decode cX5_ifStruck 1 = .ok (.getfield 10, 3) := by decide +kernel
theorem dX5_ifStruck_4 : decode cX5_ifStruck 4 = .ok (.iload_n 1, 1) := by decide +kernel
theorem dX5_ifStruck_5 : decode cX5_ifStruck 5 = .ok (.iload_n 2, 1) := by decide +kernel
theorem dX5_ifStruck_6 : decode cX5_ifStruck 6 = .ok (.iload_n 3, 1) := by decide +kernel
theorem dX5_ifStruck_7 : decode cX5_ifStruck 7 = .ok (.invokevirtual 78, 3) := by decide +kernel
theorem dX5_ifStruck_10 : decode cX5_ifStruck 10 = .ok (.istore 4, 2) := by decide +kernel
theorem dX5_ifStruck_12 : decode cX5_ifStruck 12 = .ok (.iload 4, 2) := by decide +kernel
theorem dX5_ifStruck_14 : decode cX5_ifStruck 14 = .ok (.ifCond .eq 6, 3) := by decide +kernel
theorem dX5_ifStruck_17 : decode cX5_ifStruck 17 = .ok (.iload 4, 2) := by decide +kernel
theorem dX5_ifStruck_19 : decode cX5_ifStruck 19 = .ok (.ireturn, 1) := by decide +kernel
theorem dX5_ifStruck_20 : decode cX5_ifStruck 20 = .ok (.aload_n 0, 1) := by decide +kernel
theorem dX5_ifStruck_21 : decode cX5_ifStruck 21 = .ok (.iload_n 1, 1) := by decide +kernel
theorem dX5_ifStruck_22 : decode cX5_ifStruck 22 = .ok (.iload_n 2, 1) := by decide +kernel
theorem dX5_ifStruck_23 : decode cX5_ifStruck 23 = .ok (.iload_n 3, 1) := by decide +kernel
theorem dX5_ifStruck_24 : decode cX5_ifStruck 24 = .ok (.invokevirtual 221, 3) := by decide +kernel
theorem dX5_ifStruck_27 : decode cX5_ifStruck 27 = .ok (.ireturn, 1) := by decide +kernel
set_option maxRecDepth 20000 in
theorem ggX5_leastSwing_X4_strikeError : GoodIn wsX5_leastSwing wsX4_strikeError := goodIn_r _ [6, 7, 8, 9, 10, 11, 12, 5, 13, 14, 15, 16, 17, 18, 19, 20, 21, 22, 23, 24, 91, 92, 93, 94, 95, 96, 97, 98, 99, 100, 101, 102, 103] (by decide +kernel) (by decide +kernel)
set_option maxRecDepth 20000 in
theorem gX5_leastSwing_X4_strikeError : GoodIn wsX5_leastSwing (wsV RX5 78 RX4 yX4_strikeError wsX4_strikeError) := goodIn_app (goodIn_of _ (by decide +kernel)) ggX5_leastSwing_X4_strikeError
set_option maxRecDepth 20000 in
theorem ggX5_leastSwing_X5_tryHit : GoodIn wsX5_leastSwing wsX5_tryHit := goodIn_r _ [28, 29, 1, 30, 31, 32, 5, 33, 34, 35, 36, 37, 38, 39, 14, 40, 41, 42, 43, 44, 24, 45, 19, 46, 47, 48, 49, 50, 51, 52, 53, 54, 55, 56, 57, 58, 59, 60, 61, 62, 63, 64, 65, 66, 67, 68, 69, 70, 71, 72, 73, 74, 75, 76, 77, 78, 79, 80, 81, 82, 83, 84, 85, 86, 87, 88, 89, 90, 91, 92, 93, 94, 95, 96, 97, 98, 99, 100, 101, 102, 103] (by decide +kernel) (by decide +kernel)
set_option maxRecDepth 20000 in
theorem gX5_leastSwing_X5_tryHit : GoodIn wsX5_leastSwing (wsV RX5 221 RX5 yX5_tryHit wsX5_tryHit) := goodIn_app (goodIn_of _ (by decide +kernel)) ggX5_leastSwing_X5_tryHit
theorem dX5_leastSwing_0 : decode cX5_leastSwing 0 = .ok (.aload_n 0, 1) := by decide +kernel
theorem dX5_leastSwing_1 : decode cX5_leastSwing 1 = .ok (.getfield 10, 3) := by decide +kernel
theorem dX5_leastSwing_4 : decode cX5_leastSwing 4 = .ok (.iload_n 1, 1) := by decide +kernel
theorem dX5_leastSwing_5 : decode cX5_leastSwing 5 = .ok (.iload_n 2, 1) := by decide +kernel
theorem dX5_leastSwing_6 : decode cX5_leastSwing 6 = .ok (.iconst 1, 1) := by decide +kernel
theorem dX5_leastSwing_7 : decode cX5_leastSwing 7 = .ok (.invokevirtual 78, 3) := by decide +kernel
theorem dX5_leastSwing_10 : decode cX5_leastSwing 10 = .ok (.istore_n 3, 1) := by decide +kernel
theorem dX5_leastSwing_11 : decode cX5_leastSwing 11 = .ok (.iload_n 3, 1) := by decide +kernel
theorem dX5_leastSwing_12 : decode cX5_leastSwing 12 = .ok (.ifCond .eq 5, 3) := by decide +kernel
theorem dX5_leastSwing_15 : decode cX5_leastSwing 15 = .ok (.iload_n 3, 1) := by decide +kernel
theorem dX5_leastSwing_16 : decode cX5_leastSwing 16 = .ok (.ireturn, 1) := by decide +kernel
theorem dX5_leastSwing_17 : decode cX5_leastSwing 17 = .ok (.iconst 1, 1) := by decide +kernel
theorem dX5_leastSwing_18 : decode cX5_leastSwing 18 = .ok (.istore 4, 2) := by decide +kernel
theorem dX5_leastSwing_20 : decode cX5_leastSwing 20 = .ok (.iload 4, 2) := by decide +kernel
theorem dX5_leastSwing_22 : decode cX5_leastSwing 22 = .ok (.bipush 9, 2) := by decide +kernel
theorem dX5_leastSwing_24 : decode cX5_leastSwing 24 = .ok (.if_icmp .gt 30, 3) := by decide +kernel
theorem dX5_leastSwing_27 : decode cX5_leastSwing 27 = .ok (.aload_n 0, 1) := by decide +kernel
theorem dX5_leastSwing_28 : decode cX5_leastSwing 28 = .ok (.iload_n 1, 1) := by decide +kernel
theorem dX5_leastSwing_29 : decode cX5_leastSwing 29 = .ok (.iload_n 2, 1) := by decide +kernel
theorem dX5_leastSwing_30 : decode cX5_leastSwing 30 = .ok (.iload 4, 2) := by decide +kernel
theorem dX5_leastSwing_32 : decode cX5_leastSwing 32 = .ok (.invokevirtual 221, 3) := by decide +kernel
theorem dX5_leastSwing_35 : decode cX5_leastSwing 35 = .ok (.iconst 3, 1) := by decide +kernel
theorem dX5_leastSwing_36 : decode cX5_leastSwing 36 = .ok (.iand, 1) := by decide +kernel
theorem dX5_leastSwing_37 : decode cX5_leastSwing 37 = .ok (.istore 5, 2) := by decide +kernel
theorem dX5_leastSwing_39 : decode cX5_leastSwing 39 = .ok (.iload 5, 2) := by decide +kernel
theorem dX5_leastSwing_41 : decode cX5_leastSwing 41 = .ok (.iconst 2, 1) := by decide +kernel
theorem dX5_leastSwing_42 : decode cX5_leastSwing 42 = .ok (.if_icmp .ne 6, 3) := by decide +kernel
theorem dX5_leastSwing_45 : decode cX5_leastSwing 45 = .ok (.iload 4, 2) := by decide +kernel
theorem dX5_leastSwing_47 : decode cX5_leastSwing 47 = .ok (.ireturn, 1) := by decide +kernel
theorem dX5_leastSwing_48 : decode cX5_leastSwing 48 = .ok (.iinc 4 1, 3) := by decide +kernel
theorem dX5_leastSwing_51 : decode cX5_leastSwing 51 = .ok (.goto (-31), 3) := by decide +kernel
theorem dX5_leastSwing_54 : decode cX5_leastSwing 54 = .ok (.bipush (-5), 2) := by decide +kernel
theorem dX5_leastSwing_56 : decode cX5_leastSwing 56 = .ok (.ireturn, 1) := by decide +kernel
set_option maxRecDepth 20000 in
theorem ggX5_winner_X4_boutError : GoodIn wsX5_winner wsX4_boutError := goodIn_r _ [9, 10, 11, 12, 13, 14, 15, 16, 8, 17, 18, 19, 20, 21, 22, 23, 24, 25, 26, 27, 28, 112, 113, 114, 115, 116, 117, 118, 119, 120, 121, 122, 123, 124] (by decide +kernel) (by decide +kernel)
set_option maxRecDepth 20000 in
theorem gX5_winner_X4_boutError : GoodIn wsX5_winner (wsV RX5 113 RX4 yX4_boutError wsX4_boutError) := goodIn_app (goodIn_of _ (by decide +kernel)) ggX5_winner_X4_boutError
set_option maxRecDepth 20000 in
theorem ggX5_winner_X4_copyFrom : GoodIn wsX5_winner wsX4_copyFrom := goodIn_r _ [32, 33, 34, 35, 36, 37, 38, 18, 39, 40, 41, 42, 43, 28, 44, 23, 45, 46, 112, 113, 114, 115, 116, 117, 118, 119, 120, 121, 122, 123, 124] (by decide +kernel) (by decide +kernel)
set_option maxRecDepth 20000 in
theorem gX5_winner_X4_copyFrom : GoodIn wsX5_winner (wsV RX5 164 RX4 yX4_copyFrom wsX4_copyFrom) := goodIn_app (goodIn_of _ (by decide +kernel)) ggX5_winner_X4_copyFrom
set_option maxRecDepth 20000 in
theorem ggX5_winner_X0_begin : GoodIn wsX5_winner wsX0_begin := goodIn_r _ [51, 52, 125] (by decide +kernel) (by decide +kernel)
set_option maxRecDepth 20000 in
theorem gX5_winner_X0_begin : GoodIn wsX5_winner (wsV RX5 116 RX0 yX0_begin wsX0_begin) := goodIn_app (goodIn_of _ (by decide +kernel)) ggX5_winner_X0_begin
set_option maxRecDepth 20000 in
theorem ggX5_winner_X4_fight : GoodIn wsX5_winner wsX4_fight := goodIn_r _ [56, 57, 58, 59, 60, 61, 62, 63, 24, 25, 26, 8, 27, 28, 64, 65, 66, 50, 67, 68, 69, 70, 71, 52, 72, 73, 74, 75, 76, 39, 46, 40, 41, 77, 78, 79, 80, 81, 82, 83, 84, 85, 86, 87, 45, 88, 89, 90, 91, 42, 43, 92, 93, 94, 95, 44, 96, 97, 98, 99, 100, 101, 102, 103, 112, 113, 114, 115, 116, 117, 118, 119, 120, 121, 122, 123, 124, 125] (by decide +kernel) (by decide +kernel)
set_option maxRecDepth 20000 in
theorem gX5_winner_X4_fight : GoodIn wsX5_winner (wsV RX5 120 RX4 yX4_fight wsX4_fight) := goodIn_app (goodIn_of _ (by decide +kernel)) ggX5_winner_X4_fight
theorem dX5_winner_0 : decode cX5_winner 0 = .ok (.aload_n 0, 1) := by decide +kernel
theorem dX5_winner_1 : decode cX5_winner 1 = .ok (.getfield 10, 3) := by decide +kernel
theorem dX5_winner_4 : decode cX5_winner 4 = .ok (.iload_n 1, 1) := by decide +kernel
theorem dX5_winner_5 : decode cX5_winner 5 = .ok (.iload_n 2, 1) := by decide +kernel
theorem dX5_winner_6 : decode cX5_winner 6 = .ok (.iload_n 3, 1) := by decide +kernel
theorem dX5_winner_7 : decode cX5_winner 7 = .ok (.invokevirtual 113, 3) := by decide +kernel
theorem dX5_winner_10 : decode cX5_winner 10 = .ok (.istore 4, 2) := by decide +kernel
theorem dX5_winner_12 : decode cX5_winner 12 = .ok (.iload 4, 2) := by decide +kernel
theorem dX5_winner_14 : decode cX5_winner 14 = .ok (.ifCond .eq 6, 3) := by decide +kernel
theorem dX5_winner_17 : decode cX5_winner 17 = .ok (.iload 4, 2) := by decide +kernel
theorem dX5_winner_19 : decode cX5_winner 19 = .ok (.ireturn, 1) := by decide +kernel
theorem dX5_winner_20 : decode cX5_winner 20 = .ok (.aload_n 0, 1) := by decide +kernel
theorem dX5_winner_21 : decode cX5_winner 21 = .ok (.getfield 19, 3) := by decide +kernel
theorem dX5_winner_24 : decode cX5_winner 24 = .ok (.aload_n 0, 1) := by decide +kernel
theorem dX5_winner_25 : decode cX5_winner 25 = .ok (.getfield 10, 3) := by decide +kernel
theorem dX5_winner_28 : decode cX5_winner 28 = .ok (.invokevirtual 164, 3) := by decide +kernel
theorem dX5_winner_31 : decode cX5_winner 31 = .ok (.aload_n 0, 1) := by decide +kernel
theorem dX5_winner_32 : decode cX5_winner 32 = .ok (.getfield 39, 3) := by decide +kernel
theorem dX5_winner_35 : decode cX5_winner 35 = .ok (.iload_n 3, 1) := by decide +kernel
theorem dX5_winner_36 : decode cX5_winner 36 = .ok (.invokevirtual 116, 3) := by decide +kernel
theorem dX5_winner_39 : decode cX5_winner 39 = .ok (.aload_n 0, 1) := by decide +kernel
theorem dX5_winner_40 : decode cX5_winner 40 = .ok (.getfield 19, 3) := by decide +kernel
theorem dX5_winner_43 : decode cX5_winner 43 = .ok (.iload_n 1, 1) := by decide +kernel
theorem dX5_winner_44 : decode cX5_winner 44 = .ok (.iload_n 2, 1) := by decide +kernel
theorem dX5_winner_45 : decode cX5_winner 45 = .ok (.aload_n 0, 1) := by decide +kernel
theorem dX5_winner_46 : decode cX5_winner 46 = .ok (.getfield 39, 3) := by decide +kernel
theorem dX5_winner_49 : decode cX5_winner 49 = .ok (.invokevirtual 120, 3) := by decide +kernel
theorem dX5_winner_52 : decode cX5_winner 52 = .ok (.pop, 1) := by decide +kernel
theorem dX5_winner_53 : decode cX5_winner 53 = .ok (.aload_n 0, 1) := by decide +kernel
theorem dX5_winner_54 : decode cX5_winner 54 = .ok (.getfield 19, 3) := by decide +kernel
theorem dX5_winner_57 : decode cX5_winner 57 = .ok (.getfield 101, 3) := by decide +kernel
theorem dX5_winner_60 : decode cX5_winner 60 = .ok (.iload_n 1, 1) := by decide +kernel
theorem dX5_winner_61 : decode cX5_winner 61 = .ok (.iaload, 1) := by decide +kernel
theorem dX5_winner_62 : decode cX5_winner 62 = .ok (.iconst 2, 1) := by decide +kernel
theorem dX5_winner_63 : decode cX5_winner 63 = .ok (.if_icmp .ne 7, 3) := by decide +kernel
theorem dX5_winner_66 : decode cX5_winner 66 = .ok (.iconst 1, 1) := by decide +kernel
theorem dX5_winner_67 : decode cX5_winner 67 = .ok (.goto 4, 3) := by decide +kernel
theorem dX5_winner_70 : decode cX5_winner 70 = .ok (.iconst 0, 1) := by decide +kernel
theorem dX5_winner_71 : decode cX5_winner 71 = .ok (.istore 5, 2) := by decide +kernel
theorem dX5_winner_73 : decode cX5_winner 73 = .ok (.aload_n 0, 1) := by decide +kernel
theorem dX5_winner_74 : decode cX5_winner 74 = .ok (.getfield 19, 3) := by decide +kernel
theorem dX5_winner_77 : decode cX5_winner 77 = .ok (.getfield 101, 3) := by decide +kernel
theorem dX5_winner_80 : decode cX5_winner 80 = .ok (.iload_n 2, 1) := by decide +kernel
theorem dX5_winner_81 : decode cX5_winner 81 = .ok (.iaload, 1) := by decide +kernel
theorem dX5_winner_82 : decode cX5_winner 82 = .ok (.iconst 2, 1) := by decide +kernel
theorem dX5_winner_83 : decode cX5_winner 83 = .ok (.if_icmp .ne 7, 3) := by decide +kernel
theorem dX5_winner_86 : decode cX5_winner 86 = .ok (.iconst 1, 1) := by decide +kernel
theorem dX5_winner_87 : decode cX5_winner 87 = .ok (.goto 4, 3) := by decide +kernel
theorem dX5_winner_90 : decode cX5_winner 90 = .ok (.iconst 0, 1) := by decide +kernel
theorem dX5_winner_91 : decode cX5_winner 91 = .ok (.istore 6, 2) := by decide +kernel
theorem dX5_winner_93 : decode cX5_winner 93 = .ok (.iload 5, 2) := by decide +kernel
theorem dX5_winner_95 : decode cX5_winner 95 = .ok (.iload 6, 2) := by decide +kernel
theorem dX5_winner_97 : decode cX5_winner 97 = .ok (.if_icmp .ne 6, 3) := by decide +kernel
theorem dX5_winner_100 : decode cX5_winner 100 = .ok (.bipush (-5), 2) := by decide +kernel
theorem dX5_winner_102 : decode cX5_winner 102 = .ok (.ireturn, 1) := by decide +kernel
theorem dX5_winner_103 : decode cX5_winner 103 = .ok (.iload 5, 2) := by decide +kernel
theorem dX5_winner_105 : decode cX5_winner 105 = .ok (.ifCond .eq 7, 3) := by decide +kernel
theorem dX5_winner_108 : decode cX5_winner 108 = .ok (.iload_n 2, 1) := by decide +kernel
theorem dX5_winner_109 : decode cX5_winner 109 = .ok (.goto 4, 3) := by decide +kernel
theorem dX5_winner_112 : decode cX5_winner 112 = .ok (.iload_n 1, 1) := by decide +kernel
theorem dX5_winner_113 : decode cX5_winner 113 = .ok (.ireturn, 1) := by decide +kernel
set_option maxRecDepth 20000 in
theorem ggX5_share_X4_victoriesOf : GoodIn wsX5_share wsX4_victoriesOf := goodIn_r _ [6, 7, 8, 9, 10, 11, 5, 12, 13, 29, 30, 31, 32, 33, 34, 35, 36, 37, 38, 39, 40, 41] (by decide +kernel) (by decide +kernel)
set_option maxRecDepth 20000 in
theorem gX5_share_X4_victoriesOf : GoodIn wsX5_share (wsV RX5 191 RX4 yX4_victoriesOf wsX4_victoriesOf) := goodIn_app (goodIn_of _ (by decide +kernel)) ggX5_share_X4_victoriesOf
set_option maxRecDepth 20000 in
theorem ggX5_share_X5_isPlayer : GoodIn wsX5_share wsX5_isPlayer := goodIn_r _ [17, 18, 19, 16, 20] (by decide +kernel) (by decide +kernel)
set_option maxRecDepth 20000 in
theorem gX5_share_X5_isPlayer : GoodIn wsX5_share (va_wsS RX5 54 yX5_isPlayer wsX5_isPlayer) := goodIn_app (goodIn_of _ (by decide +kernel)) ggX5_share_X5_isPlayer
theorem dX5_share_0 : decode cX5_share 0 = .ok (.aload_n 0, 1) := by decide +kernel
theorem dX5_share_1 : decode cX5_share 1 = .ok (.getfield 10, 3) := by decide +kernel
theorem dX5_share_4 : decode cX5_share 4 = .ok (.iconst (-1), 1) := by decide +kernel
theorem dX5_share_5 : decode cX5_share 5 = .ok (.invokevirtual 191, 3) := by decide +kernel
theorem dX5_share_8 : decode cX5_share 8 = .ok (.istore_n 2, 1) := by decide +kernel
theorem dX5_share_9 : decode cX5_share 9 = .ok (.iload_n 1, 1) := by decide +kernel
theorem dX5_share_10 : decode cX5_share 10 = .ok (.invokestatic 54, 3) := by decide +kernel
theorem dX5_share_13 : decode cX5_share 13 = .ok (.ifCond .eq 8, 3) := by decide +kernel
theorem dX5_share_16 : decode cX5_share 16 = .ok (.iload_n 2, 1) := by decide +kernel
theorem dX5_share_17 : decode cX5_share 17 = .ok (.iconst 1, 1) := by decide +kernel
theorem dX5_share_18 : decode cX5_share 18 = .ok (.if_icmp .ge 5, 3) := by decide +kernel
theorem dX5_share_21 : decode cX5_share 21 = .ok (.fconst 0, 1) := by decide +kernel
theorem dX5_share_22 : decode cX5_share 22 = .ok (.freturn, 1) := by decide +kernel
theorem dX5_share_23 : decode cX5_share 23 = .ok (.aload_n 0, 1) := by decide +kernel
theorem dX5_share_24 : decode cX5_share 24 = .ok (.getfield 10, 3) := by decide +kernel
theorem dX5_share_27 : decode cX5_share 27 = .ok (.iload_n 1, 1) := by decide +kernel
theorem dX5_share_28 : decode cX5_share 28 = .ok (.invokevirtual 191, 3) := by decide +kernel
theorem dX5_share_31 : decode cX5_share 31 = .ok (.i2f, 1) := by decide +kernel
theorem dX5_share_32 : decode cX5_share 32 = .ok (.iload_n 2, 1) := by decide +kernel
theorem dX5_share_33 : decode cX5_share 33 = .ok (.i2f, 1) := by decide +kernel
theorem dX5_share_34 : decode cX5_share 34 = .ok (.fdiv, 1) := by decide +kernel
theorem dX5_share_35 : decode cX5_share 35 = .ok (.freturn, 1) := by decide +kernel
theorem dX5_isWithin_0 : decode cX5_isWithin 0 = .ok (.iload_n 0, 1) := by decide +kernel
theorem dX5_isWithin_1 : decode cX5_isWithin 1 = .ok (.iload_n 1, 1) := by decide +kernel
theorem dX5_isWithin_2 : decode cX5_isWithin 2 = .ok (.if_icmp .lt 12, 3) := by decide +kernel
theorem dX5_isWithin_5 : decode cX5_isWithin 5 = .ok (.iload_n 0, 1) := by decide +kernel
theorem dX5_isWithin_6 : decode cX5_isWithin 6 = .ok (.iload_n 2, 1) := by decide +kernel
theorem dX5_isWithin_7 : decode cX5_isWithin 7 = .ok (.if_icmp .gt 7, 3) := by decide +kernel
theorem dX5_isWithin_10 : decode cX5_isWithin 10 = .ok (.iconst 1, 1) := by decide +kernel
theorem dX5_isWithin_11 : decode cX5_isWithin 11 = .ok (.goto 4, 3) := by decide +kernel
theorem dX5_isWithin_14 : decode cX5_isWithin 14 = .ok (.iconst 0, 1) := by decide +kernel
theorem dX5_isWithin_15 : decode cX5_isWithin 15 = .ok (.ireturn, 1) := by decide +kernel
set_option maxRecDepth 20000 in
theorem ggX5_isPlayer_X5_isWithin : GoodIn wsX5_isPlayer wsX5_isWithin := goodIn_r _ [4] (by decide +kernel) (by decide +kernel)
set_option maxRecDepth 20000 in
theorem gX5_isPlayer_X5_isWithin : GoodIn wsX5_isPlayer (va_wsS RX5 58 yX5_isWithin wsX5_isWithin) := goodIn_app (goodIn_of _ (by decide +kernel)) ggX5_isPlayer_X5_isWithin
theorem dX5_isPlayer_0 : decode cX5_isPlayer 0 = .ok (.iload_n 0, 1) := by decide +kernel
theorem dX5_isPlayer_1 : decode cX5_isPlayer 1 = .ok (.iconst 0, 1) := by decide +kernel
theorem dX5_isPlayer_2 : decode cX5_isPlayer 2 = .ok (.iconst 5, 1) := by decide +kernel
theorem dX5_isPlayer_3 : decode cX5_isPlayer 3 = .ok (.invokestatic 58, 3) := by decide +kernel
theorem dX5_isPlayer_6 : decode cX5_isPlayer 6 = .ok (.ireturn, 1) := by decide +kernel
set_option maxRecDepth 20000 in
theorem ggX5_tryHit_X4_copyFrom : GoodIn wsX5_tryHit wsX4_copyFrom := goodIn_r _ [7, 8, 9, 10, 11, 12, 13, 14, 15, 16, 17, 18, 19, 20, 21, 22, 23, 24, 68, 69, 70, 71, 72, 73, 74, 75, 76, 77, 78, 79, 80] (by decide +kernel) (by decide +kernel)
set_option maxRecDepth 20000 in
theorem gX5_tryHit_X4_copyFrom : GoodIn wsX5_tryHit (wsV RX5 164 RX4 yX4_copyFrom wsX4_copyFrom) := goodIn_app (goodIn_of _ (by decide +kernel)) ggX5_tryHit_X4_copyFrom
set_option maxRecDepth 20000 in
theorem ggX5_tryHit_X4_hit : GoodIn wsX5_tryHit wsX4_hit := goodIn_r _ [28, 15, 24, 16, 29, 30, 31, 32, 17, 33, 34, 6, 35, 36, 37, 38, 39, 40, 41, 42, 43, 23, 44, 45, 46, 47, 18, 19, 20, 48, 49, 50, 51, 21, 52, 53, 54, 55, 56, 57, 58, 59, 68, 69, 70, 71, 72, 73, 74, 75, 76, 77, 78, 79, 80] (by decide +kernel) (by decide +kernel)
set_option maxRecDepth 20000 in
theorem gX5_tryHit_X4_hit : GoodIn wsX5_tryHit (wsV RX5 82 RX4 yX4_hit wsX4_hit) := goodIn_app (goodIn_of _ (by decide +kernel)) ggX5_tryHit_X4_hit
theorem dX5_tryHit_0 : decode cX5_tryHit 0 = .ok (.aload_n 0, 1) := by decide +kernel
theorem dX5_tryHit_1 : decode cX5_tryHit 1 = .ok (.getfield 19, 3) := by decide +kernel
theorem dX5_tryHit_4 : decode cX5_tryHit 4 = .ok (.aload_n 0, 1) := by decide +kernel
theorem dX5_tryHit_5 : decode cX5_tryHit 5 = .ok (.getfield 10, 3) := by decide +kernel
theorem dX5_tryHit_8 : decode cX5_tryHit 8 = .ok (.invokevirtual 164, 3) := by decide +kernel
theorem dX5_tryHit_11 : decode cX5_tryHit 11 = .ok (.aload_n 0, 1) := by decide +kernel
theorem dX5_tryHit_12 : decode cX5_tryHit 12 = .ok (.getfield 19, 3) := by decide +kernel
theorem dX5_tryHit_15 : decode cX5_tryHit 15 = .ok (.iload_n 1, 1) := by decide +kernel
theorem dX5_tryHit_16 : decode cX5_tryHit 16 = .ok (.iload_n 2, 1) := by decide +kernel
theorem dX5_tryHit_17 : decode cX5_tryHit 17 = .ok (.iload_n 3, 1) := by decide +kernel
theorem dX5_tryHit_18 : decode cX5_tryHit 18 = .ok (.invokevirtual 82, 3) := by decide +kernel
theorem dX5_tryHit_21 : decode cX5_tryHit 21 = .ok (.ireturn, 1) := by decide +kernel
theorem dJ9_max_7cf53_0 : decode cJ9_max_7cf53 0 = .ok (.iload_n 0, 1) := by decide +kernel
theorem dJ9_max_7cf53_1 : decode cJ9_max_7cf53 1 = .ok (.iload_n 1, 1) := by decide +kernel
theorem dJ9_max_7cf53_2 : decode cJ9_max_7cf53 2 = .ok (.if_icmp .lt 7, 3) := by decide +kernel
theorem dJ9_max_7cf53_5 : decode cJ9_max_7cf53 5 = .ok (.iload_n 0, 1) := by decide +kernel
theorem dJ9_max_7cf53_6 : decode cJ9_max_7cf53 6 = .ok (.goto 4, 3) := by decide +kernel
theorem dJ9_max_7cf53_9 : decode cJ9_max_7cf53 9 = .ok (.iload_n 1, 1) := by decide +kernel
theorem dJ9_max_7cf53_10 : decode cJ9_max_7cf53 10 = .ok (.ireturn, 1) := by decide +kernel
theorem dJ9_min_7cf53_0 : decode cJ9_min_7cf53 0 = .ok (.iload_n 0, 1) := by decide +kernel
theorem dJ9_min_7cf53_1 : decode cJ9_min_7cf53 1 = .ok (.iload_n 1, 1) := by decide +kernel
theorem dJ9_min_7cf53_2 : decode cJ9_min_7cf53 2 = .ok (.if_icmp .gt 7, 3) := by decide +kernel
theorem dJ9_min_7cf53_5 : decode cJ9_min_7cf53 5 = .ok (.iload_n 0, 1) := by decide +kernel
theorem dJ9_min_7cf53_6 : decode cJ9_min_7cf53 6 = .ok (.goto 4, 3) := by decide +kernel
theorem dJ9_min_7cf53_9 : decode cJ9_min_7cf53 9 = .ok (.iload_n 1, 1) := by decide +kernel
theorem dJ9_min_7cf53_10 : decode cJ9_min_7cf53 10 = .ok (.ireturn, 1) := by decide +kernel
theorem dL_cell_0 : decode cL_cell 0 = .ok (.iload_n 1, 1) := by decide +kernel
theorem dL_cell_1 : decode cL_cell 1 = .ok (.aload_n 0, 1) := by decide +kernel
theorem dL_cell_2 : decode cL_cell 2 = .ok (.arraylength, 1) := by decide +kernel
theorem dL_cell_3 : decode cL_cell 3 = .ok (.if_icmp .ge 9, 3) := by decide +kernel
theorem dL_cell_6 : decode cL_cell 6 = .ok (.aload_n 0, 1) := by decide +kernel
theorem dL_cell_7 : decode cL_cell 7 = .ok (.iload_n 1, 1) := by decide +kernel
theorem dL_cell_8 : decode cL_cell 8 = .ok (.iaload, 1) := by decide +kernel
theorem dL_cell_9 : decode cL_cell 9 = .ok (.goto 12, 3) := by decide +kernel
theorem dL_cell_12 : decode cL_cell 12 = .ok (.ldc 7, 2) := by decide +kernel
theorem dL_cell_14 : decode cL_cell 14 = .ok (.iload_n 1, 1) := by decide +kernel
theorem dL_cell_15 : decode cL_cell 15 = .ok (.iconst 1, 1) := by decide +kernel
theorem dL_cell_16 : decode cL_cell 16 = .ok (.iadd, 1) := by decide +kernel
theorem dL_cell_17 : decode cL_cell 17 = .ok (.imul, 1) := by decide +kernel
theorem dL_cell_18 : decode cL_cell 18 = .ok (.ldc 8, 2) := by decide +kernel
theorem dL_cell_20 : decode cL_cell 20 = .ok (.iadd, 1) := by decide +kernel
theorem dL_cell_21 : decode cL_cell 21 = .ok (.ireturn, 1) := by decide +kernel
theorem dL_low_0 : decode cL_low 0 = .ok (.iload_n 0, 1) := by decide +kernel
theorem dL_low_1 : decode cL_low 1 = .ok (.ldc 9, 2) := by decide +kernel
theorem dL_low_3 : decode cL_low 3 = .ok (.iand, 1) := by decide +kernel
theorem dL_low_4 : decode cL_low 4 = .ok (.iload_n 1, 1) := by decide +kernel
theorem dL_low_5 : decode cL_low 5 = .ok (.irem, 1) := by decide +kernel
theorem dL_low_6 : decode cL_low 6 = .ok (.ireturn, 1) := by decide +kernel
set_option maxRecDepth 20000 in
theorem ggL_act_L_low : GoodIn wsL_act wsL_low := goodIn_r _ [5, 6] (by decide +kernel) (by decide +kernel)
set_option maxRecDepth 20000 in
theorem gL_act_L_low : GoodIn wsL_act (va_wsS RL 10 yL_low wsL_low) := goodIn_app (goodIn_of _ (by decide +kernel)) ggL_act_L_low
set_option maxRecDepth 20000 in
theorem ggL_act_X5_thread : GoodIn wsL_act wsX5_thread := goodIn_r _ [11, 12, 13, 14, 15, 16, 17, 10, 18, 19, 20, 21, 22, 23, 24, 25, 26, 27, 28, 29, 30, 31, 32, 33, 34, 35, 36, 37, 38, 39, 40, 41, 42, 43, 44, 45, 46, 47, 48, 49, 50, 51, 52, 53, 54, 55, 56, 57, 58, 218, 219, 220, 221, 222, 223, 224, 225, 226, 227, 228, 229, 230, 231, 232, 233, 234, 235, 236, 237, 238, 239, 240] (by decide +kernel) (by decide +kernel)
set_option maxRecDepth 20000 in
theorem gL_act_X5_thread : GoodIn wsL_act (wsV RL 16 RX5 yX5_thread wsX5_thread) := goodIn_app (goodIn_of _ (by decide +kernel)) ggL_act_X5_thread
set_option maxRecDepth 20000 in
theorem ggL_act_X5_give : GoodIn wsL_act wsX5_give := goodIn_r _ [62, 12, 13, 15, 16, 17, 10, 18, 19, 20, 21, 22, 23, 24, 25, 26, 27, 28, 29, 30, 31, 32, 33, 34, 35, 36, 37, 38, 39, 40, 41, 42, 43, 44, 45, 46, 47, 48, 49, 50, 51, 52, 53, 54, 218, 219, 220, 221, 222, 223, 224, 225, 226, 227, 228, 229, 230, 231, 232, 233, 234, 235, 236, 237, 238, 239, 240] (by decide +kernel) (by decide +kernel)
set_option maxRecDepth 20000 in
theorem gL_act_X5_give : GoodIn wsL_act (wsV RL 21 RX5 yX5_give wsX5_give) := goodIn_app (goodIn_of _ (by decide +kernel)) ggL_act_X5_give
set_option maxRecDepth 20000 in
theorem ggL_act_X5_boast : GoodIn wsL_act wsX5_boast := goodIn_r _ [66, 12, 67, 15, 68, 69, 70, 71, 36, 72, 52, 20, 10, 21, 19, 22, 23, 24, 25, 26, 27, 28, 29, 30, 31, 32, 33, 34, 35, 37, 38, 39, 40, 41, 42, 43, 44, 45, 46, 47, 48, 49, 50, 51, 53, 54, 218, 219, 220, 221, 222, 223, 224, 225, 226, 227, 228, 229, 230, 231, 232, 233, 234, 235, 236, 237, 238, 239, 240] (by decide +kernel) (by decide +kernel)
set_option maxRecDepth 20000 in
theorem gL_act_X5_boast : GoodIn wsL_act (wsV RL 24 RX5 yX5_boast wsX5_boast) := goodIn_app (goodIn_of _ (by decide +kernel)) ggL_act_X5_boast
set_option maxRecDepth 20000 in
theorem ggL_act_X5_doubt : GoodIn wsL_act wsX5_doubt := goodIn_r _ [76, 12, 77, 68, 15, 16, 17, 10, 18, 19, 20, 21, 69, 70, 71, 36, 72, 52, 22, 23, 24, 25, 26, 27, 28, 29, 30, 31, 32, 33, 34, 35, 37, 38, 39, 40, 41, 42, 43, 44, 45, 46, 47, 48, 49, 50, 51, 53, 54, 78, 79, 80, 81, 218, 219, 220, 221, 222, 223, 224, 225, 226, 227, 228, 229, 230, 231, 232, 233, 234, 235, 236, 237, 238, 239, 240] (by decide +kernel) (by decide +kernel)
set_option maxRecDepth 20000 in
theorem gL_act_X5_doubt : GoodIn wsL_act (wsV RL 27 RX5 yX5_doubt wsX5_doubt) := goodIn_app (goodIn_of _ (by decide +kernel)) ggL_act_X5_doubt
set_option maxRecDepth 20000 in
theorem ggL_act_X5_mend : GoodIn wsL_act wsX5_mend := goodIn_r _ [85, 12, 15, 86, 87, 88, 36, 89, 38, 44, 90, 91, 92, 93, 50, 94, 70, 71, 72, 52, 20, 10, 21, 22, 23, 24, 25, 26, 27, 28, 29, 30, 31, 32, 33, 34, 35, 37, 39, 40, 41, 42, 43, 45, 46, 47, 48, 49, 51, 53, 54, 95, 96, 97, 98, 218, 219, 220, 221, 222, 223, 224, 225, 226, 227, 228, 229, 230, 231, 232, 233, 234, 235, 236, 237, 238, 239, 240] (by decide +kernel) (by decide +kernel)
set_option maxRecDepth 20000 in
theorem gL_act_X5_mend : GoodIn wsL_act (wsV RL 30 RX5 yX5_mend wsX5_mend) := goodIn_app (goodIn_of _ (by decide +kernel)) ggL_act_X5_mend
set_option maxRecDepth 20000 in
theorem ggL_act_X5_stamp : GoodIn wsL_act wsX5_stamp := goodIn_r _ [102, 12, 15, 103, 91, 92, 36, 93, 50, 94, 70, 71, 72, 52, 20, 10, 21, 22, 23, 24, 25, 26, 27, 28, 29, 30, 31, 32, 33, 34, 35, 37, 38, 39, 40, 41, 42, 43, 44, 45, 46, 47, 48, 49, 51, 53, 54, 104, 105, 106, 107, 108, 109, 110, 111, 218, 219, 220, 221, 222, 223, 224, 225, 226, 227, 228, 229, 230, 231, 232, 233, 234, 235, 236, 237, 238, 239, 240] (by decide +kernel) (by decide +kernel)
set_option maxRecDepth 20000 in
theorem gL_act_X5_stamp : GoodIn wsL_act (wsV RL 34 RX5 yX5_stamp wsX5_stamp) := goodIn_app (goodIn_of _ (by decide +kernel)) ggL_act_X5_stamp
set_option maxRecDepth 20000 in
theorem ggL_act_X5_bout : GoodIn wsL_act wsX5_bout := goodIn_r _ [115, 12, 15, 116, 117, 118, 119, 36, 120, 121, 20, 10, 21, 122, 123, 124, 125, 44, 94, 70, 71, 72, 52, 126, 127, 128, 129, 50, 22, 23, 24, 25, 26, 27, 28, 29, 30, 31, 32, 33, 34, 35, 37, 38, 39, 40, 41, 42, 43, 45, 46, 47, 48, 49, 51, 53, 54, 130, 131, 132, 133, 134, 135, 136, 137, 138, 139, 140, 141, 142, 143, 144, 145, 146, 147, 148, 149, 150, 151, 152, 153, 154, 155, 156, 157, 158, 159, 160, 161, 162, 163, 164, 165, 166, 167, 105, 106, 107, 108, 109, 110, 111, 168, 169, 170, 171, 172, 173, 174, 175, 176, 177, 178, 179, 218, 219, 220, 221, 222, 223, 224, 225, 226, 227, 228, 229, 230, 231, 232, 233, 234, 235, 236, 237, 238, 239, 240, 241] (by decide +kernel) (by decide +kernel)
set_option maxRecDepth 20000 in
theorem gL_act_X5_bout : GoodIn wsL_act (wsV RL 38 RX5 yX5_bout wsX5_bout) := goodIn_app (goodIn_of _ (by decide +kernel)) ggL_act_X5_bout
set_option maxRecDepth 20000 in
theorem ggL_act_X5_round : GoodIn wsL_act wsX5_round := goodIn_r _ [183, 184, 15, 12, 116, 185, 186, 19, 20, 10, 21, 22, 23, 24, 25, 26, 27, 28, 29, 30, 31, 32, 33, 34, 35, 36, 37, 38, 39, 40, 41, 42, 43, 44, 45, 46, 47, 48, 49, 50, 51, 52, 53, 54, 130, 131, 132, 133, 134, 135, 187, 188, 189, 190, 191, 192, 193, 194, 195, 196, 197, 198, 199, 200, 201, 202, 203, 204, 152, 153, 154, 155, 205, 206, 207, 208, 136, 137, 138, 139, 140, 141, 142, 143, 144, 145, 146, 126, 127, 128, 129, 147, 148, 149, 150, 151, 156, 157, 158, 159, 160, 161, 162, 163, 164, 165, 166, 167, 105, 106, 107, 108, 109, 110, 111, 168, 169, 170, 171, 172, 173, 174, 175, 176, 177, 178, 179, 218, 219, 220, 221, 222, 223, 224, 225, 242, 243, 239, 240, 226, 227, 228, 229, 230, 231, 232, 233, 234, 235, 236, 237, 238, 241] (by decide +kernel) (by decide +kernel)
set_option maxRecDepth 20000 in
theorem gL_act_X5_round : GoodIn wsL_act (wsV RL 42 RX5 yX5_round wsX5_round) := goodIn_app (goodIn_of _ (by decide +kernel)) ggL_act_X5_round
set_option maxRecDepth 20000 in
theorem ggL_act_X5_strike : GoodIn wsL_act wsX5_strike := goodIn_r _ [212, 12, 15, 213, 214, 215, 36, 216, 20, 10, 21, 122, 123, 124, 125, 44, 94, 70, 71, 72, 52, 126, 127, 128, 129, 50, 22, 23, 24, 25, 26, 27, 28, 29, 30, 31, 32, 33, 34, 35, 37, 38, 39, 40, 41, 42, 43, 45, 46, 47, 48, 49, 51, 53, 54, 217, 157, 158, 159, 140, 141, 142, 143, 160, 161, 162, 163, 164, 165, 166, 167, 105, 106, 107, 108, 109, 110, 111, 168, 169, 170, 171, 172, 173, 174, 175, 176, 177, 178, 179, 218, 219, 220, 221, 222, 223, 224, 225, 226, 227, 228, 229, 230, 231, 232, 233, 234, 235, 236, 237, 238, 239, 240] (by decide +kernel) (by decide +kernel)
set_option maxRecDepth 20000 in
theorem gL_act_X5_strike : GoodIn wsL_act (wsV RL 45 RX5 yX5_strike wsX5_strike) := goodIn_app (goodIn_of _ (by decide +kernel)) ggL_act_X5_strike
theorem dL_act_0 : decode cL_act 0 = .ok (.iload_n 1, 1) := by decide +kernel
theorem dL_act_1 : decode cL_act 1 = .ok (.iconst 4, 1) := by decide +kernel
theorem dL_act_2 : decode cL_act 2 = .ok (.ishr, 1) := by decide +kernel
theorem dL_act_3 : decode cL_act 3 = .ok (.bipush 9, 2) := by decide +kernel
theorem dL_act_5 : decode cL_act 5 = .ok (.invokestatic 10, 3) := by decide +kernel
theorem dL_act_8 : decode cL_act 8 = .ok (.istore_n 3, 1) := by decide +kernel
theorem dL_act_9 : decode cL_act 9 = .ok (.iload_n 1, 1) := by decide +kernel
theorem dL_act_10 : decode cL_act 10 = .ok (.bipush 8, 2) := by decide +kernel
theorem dL_act_12 : decode cL_act 12 = .ok (.ishr, 1) := by decide +kernel
theorem dL_act_13 : decode cL_act 13 = .ok (.bipush 9, 2) := by decide +kernel
theorem dL_act_15 : decode cL_act 15 = .ok (.invokestatic 10, 3) := by decide +kernel
theorem dL_act_18 : decode cL_act 18 = .ok (.istore 4, 2) := by decide +kernel
theorem dL_act_20 : decode cL_act 20 = .ok (.iload_n 1, 1) := by decide +kernel
theorem dL_act_21 : decode cL_act 21 = .ok (.bipush 17, 2) := by decide +kernel
theorem dL_act_23 : decode cL_act 23 = .ok (.invokestatic 10, 3) := by decide +kernel
theorem dL_act_26 : decode cL_act 26 = .ok (.tableswitch 189 0 12 #[66, 66, 86, 106, 117, 117, 129, 129, 135, 164, 164, 178, 178], 66) := by decide +kernel
theorem dL_act_92 : decode cL_act 92 = .ok (.aload_n 0, 1) := by decide +kernel
theorem dL_act_93 : decode cL_act 93 = .ok (.iload_n 1, 1) := by decide +kernel
theorem dL_act_94 : decode cL_act 94 = .ok (.iconst 4, 1) := by decide +kernel
theorem dL_act_95 : decode cL_act 95 = .ok (.ishr, 1) := by decide +kernel
theorem dL_act_96 : decode cL_act 96 = .ok (.iconst 4, 1) := by decide +kernel
theorem dL_act_97 : decode cL_act 97 = .ok (.invokestatic 10, 3) := by decide +kernel
theorem dL_act_100 : decode cL_act 100 = .ok (.iconst 1, 1) := by decide +kernel
theorem dL_act_101 : decode cL_act 101 = .ok (.iload_n 2, 1) := by decide +kernel
theorem dL_act_102 : decode cL_act 102 = .ok (.bipush 9, 2) := by decide +kernel
theorem dL_act_104 : decode cL_act 104 = .ok (.invokestatic 10, 3) := by decide +kernel
theorem dL_act_107 : decode cL_act 107 = .ok (.iadd, 1) := by decide +kernel
theorem dL_act_108 : decode cL_act 108 = .ok (.invokevirtual 16, 3) := by decide +kernel
theorem dL_act_111 : decode cL_act 111 = .ok (.ireturn, 1) := by decide +kernel
theorem dL_act_112 : decode cL_act 112 = .ok (.aload_n 0, 1) := by decide +kernel
theorem dL_act_113 : decode cL_act 113 = .ok (.iload_n 1, 1) := by decide +kernel
theorem dL_act_114 : decode cL_act 114 = .ok (.iconst 4, 1) := by decide +kernel
theorem dL_act_115 : decode cL_act 115 = .ok (.ishr, 1) := by decide +kernel
theorem dL_act_116 : decode cL_act 116 = .ok (.iconst 4, 1) := by decide +kernel
theorem dL_act_117 : decode cL_act 117 = .ok (.invokestatic 10, 3) := by decide +kernel
theorem dL_act_120 : decode cL_act 120 = .ok (.iconst 1, 1) := by decide +kernel
theorem dL_act_121 : decode cL_act 121 = .ok (.iload_n 2, 1) := by decide +kernel
theorem dL_act_122 : decode cL_act 122 = .ok (.bipush 9, 2) := by decide +kernel
theorem dL_act_124 : decode cL_act 124 = .ok (.invokestatic 10, 3) := by decide +kernel
theorem dL_act_127 : decode cL_act 127 = .ok (.iadd, 1) := by decide +kernel
theorem dL_act_128 : decode cL_act 128 = .ok (.invokevirtual 21, 3) := by decide +kernel
theorem dL_act_131 : decode cL_act 131 = .ok (.ireturn, 1) := by decide +kernel
theorem dL_act_132 : decode cL_act 132 = .ok (.aload_n 0, 1) := by decide +kernel
theorem dL_act_133 : decode cL_act 133 = .ok (.iload_n 3, 1) := by decide +kernel
theorem dL_act_134 : decode cL_act 134 = .ok (.iload_n 2, 1) := by decide +kernel
theorem dL_act_135 : decode cL_act 135 = .ok (.iconst 4, 1) := by decide +kernel
theorem dL_act_136 : decode cL_act 136 = .ok (.invokestatic 10, 3) := by decide +kernel
theorem dL_act_139 : decode cL_act 139 = .ok (.invokevirtual 24, 3) := by decide +kernel
theorem dL_act_142 : decode cL_act 142 = .ok (.ireturn, 1) := by decide +kernel
theorem dL_act_143 : decode cL_act 143 = .ok (.aload_n 0, 1) := by decide +kernel
theorem dL_act_144 : decode cL_act 144 = .ok (.iload_n 2, 1) := by decide +kernel
theorem dL_act_145 : decode cL_act 145 = .ok (.bipush 6, 2) := by decide +kernel
theorem dL_act_147 : decode cL_act 147 = .ok (.invokestatic 10, 3) := by decide +kernel
theorem dL_act_150 : decode cL_act 150 = .ok (.iload_n 3, 1) := by decide +kernel
theorem dL_act_151 : decode cL_act 151 = .ok (.invokevirtual 27, 3) := by decide +kernel
theorem dL_act_154 : decode cL_act 154 = .ok (.ireturn, 1) := by decide +kernel
theorem dL_act_155 : decode cL_act 155 = .ok (.aload_n 0, 1) := by decide +kernel
theorem dL_act_156 : decode cL_act 156 = .ok (.iload_n 3, 1) := by decide +kernel
theorem dL_act_157 : decode cL_act 157 = .ok (.invokevirtual 30, 3) := by decide +kernel
theorem dL_act_160 : decode cL_act 160 = .ok (.ireturn, 1) := by decide +kernel
theorem dL_act_161 : decode cL_act 161 = .ok (.iload_n 2, 1) := by decide +kernel
theorem dL_act_162 : decode cL_act 162 = .ok (.iconst 2, 1) := by decide +kernel
theorem dL_act_163 : decode cL_act 163 = .ok (.invokestatic 10, 3) := by decide +kernel
theorem dL_act_166 : decode cL_act 166 = .ok (.ifCond .ne 11, 3) := by decide +kernel
theorem dL_act_169 : decode cL_act 169 = .ok (.aload_n 0, 1) := by decide +kernel
theorem dL_act_170 : decode cL_act 170 = .ok (.iload_n 3, 1) := by decide +kernel
theorem dL_act_171 : decode cL_act 171 = .ok (.invokevirtual 34, 3) := by decide +kernel
theorem dL_act_174 : decode cL_act 174 = .ok (.goto 15, 3) := by decide +kernel
theorem dL_act_177 : decode cL_act 177 = .ok (.aload_n 0, 1) := by decide +kernel
theorem dL_act_178 : decode cL_act 178 = .ok (.iload_n 3, 1) := by decide +kernel
theorem dL_act_179 : decode cL_act 179 = .ok (.iload_n 2, 1) := by decide +kernel
theorem dL_act_180 : decode cL_act 180 = .ok (.iconst 1, 1) := by decide +kernel
theorem dL_act_181 : decode cL_act 181 = .ok (.ishr, 1) := by decide +kernel
theorem dL_act_182 : decode cL_act 182 = .ok (.iconst 3, 1) := by decide +kernel
theorem dL_act_183 : decode cL_act 183 = .ok (.invokestatic 10, 3) := by decide +kernel
theorem dL_act_186 : decode cL_act 186 = .ok (.invokevirtual 24, 3) := by decide +kernel
theorem dL_act_189 : decode cL_act 189 = .ok (.ireturn, 1) := by decide +kernel
theorem dL_act_190 : decode cL_act 190 = .ok (.aload_n 0, 1) := by decide +kernel
theorem dL_act_191 : decode cL_act 191 = .ok (.iload_n 3, 1) := by decide +kernel
theorem dL_act_192 : decode cL_act 192 = .ok (.iload 4, 2) := by decide +kernel
theorem dL_act_194 : decode cL_act 194 = .ok (.iload_n 2, 1) := by decide +kernel
theorem dL_act_195 : decode cL_act 195 = .ok (.ldc 37, 2) := by decide +kernel
theorem dL_act_197 : decode cL_act 197 = .ok (.invokestatic 10, 3) := by decide +kernel
theorem dL_act_200 : decode cL_act 200 = .ok (.invokevirtual 38, 3) := by decide +kernel
theorem dL_act_203 : decode cL_act 203 = .ok (.ireturn, 1) := by decide +kernel
theorem dL_act_204 : decode cL_act 204 = .ok (.aload_n 0, 1) := by decide +kernel
theorem dL_act_205 : decode cL_act 205 = .ok (.iload_n 2, 1) := by decide +kernel
theorem dL_act_206 : decode cL_act 206 = .ok (.ldc 37, 2) := by decide +kernel
theorem dL_act_208 : decode cL_act 208 = .ok (.invokestatic 10, 3) := by decide +kernel
theorem dL_act_211 : decode cL_act 211 = .ok (.invokevirtual 42, 3) := by decide +kernel
theorem dL_act_214 : decode cL_act 214 = .ok (.ireturn, 1) := by decide +kernel
theorem dL_act_215 : decode cL_act 215 = .ok (.aload_n 0, 1) := by decide +kernel
theorem dL_act_216 : decode cL_act 216 = .ok (.iload_n 3, 1) := by decide +kernel
theorem dL_act_217 : decode cL_act 217 = .ok (.iload 4, 2) := by decide +kernel
theorem dL_act_219 : decode cL_act 219 = .ok (.iconst 1, 1) := by decide +kernel
theorem dL_act_220 : decode cL_act 220 = .ok (.iload_n 2, 1) := by decide +kernel
theorem dL_act_221 : decode cL_act 221 = .ok (.bipush 9, 2) := by decide +kernel
theorem dL_act_223 : decode cL_act 223 = .ok (.invokestatic 10, 3) := by decide +kernel
theorem dL_act_226 : decode cL_act 226 = .ok (.iadd, 1) := by decide +kernel
theorem dL_act_227 : decode cL_act 227 = .ok (.invokevirtual 45, 3) := by decide +kernel
theorem dL_act_230 : decode cL_act 230 = .ok (.ireturn, 1) := by decide +kernel
set_option maxRecDepth 20000 in
theorem ggL_conkers_X5_count : GoodIn wsL_conkers wsX5_count := goodIn_r _ [6, 7, 8, 9, 10, 11, 12, 13, 14, 15, 16, 17, 18, 19, 20, 21, 22, 23, 24, 25, 26, 27, 28, 29, 30, 31, 32, 33, 34, 35, 36, 37, 38, 39, 40, 41, 42, 43, 44, 45, 46, 47, 48, 49, 82, 83, 84, 85, 86, 87, 88, 89, 90, 91, 92, 93, 94, 95, 96, 97, 98, 99, 100, 101, 102, 103, 104, 105, 106, 107, 108, 109, 110, 111] (by decide +kernel) (by decide +kernel)
set_option maxRecDepth 20000 in
theorem gL_conkers_X5_count : GoodIn wsL_conkers (wsV RL 48 RX5 yX5_count wsX5_count) := goodIn_app (goodIn_of _ (by decide +kernel)) ggL_conkers_X5_count
set_option maxRecDepth 20000 in
theorem ggL_conkers_X5_conker : GoodIn wsL_conkers wsX5_conker := goodIn_r _ [53, 7, 54, 55, 56, 57, 58, 59, 60, 61, 62, 63, 64, 18, 65, 20, 66, 5, 67, 68, 37, 38, 39, 40, 82, 83, 84, 85, 86, 87, 88, 89, 90, 91, 92, 93, 94, 95, 96, 97, 98, 99, 100, 101, 102] (by decide +kernel) (by decide +kernel)
set_option maxRecDepth 20000 in
theorem gL_conkers_X5_conker : GoodIn wsL_conkers (wsV RL 51 RX5 yX5_conker wsX5_conker) := goodIn_app (goodIn_of _ (by decide +kernel)) ggL_conkers_X5_conker
set_option maxRecDepth 20000 in
theorem ggL_conkers_X5_line : GoodIn wsL_conkers wsX5_line := goodIn_r _ [72, 7, 62, 63, 64, 18, 65, 20, 66, 5, 67, 73, 74, 75, 76, 77, 78, 79, 80, 40, 81, 82, 83, 84, 85, 86, 87, 88, 89, 90, 91, 92, 93, 94, 95, 96, 97, 98, 99, 100, 101, 102] (by decide +kernel) (by decide +kernel)
set_option maxRecDepth 20000 in
theorem gL_conkers_X5_line : GoodIn wsL_conkers (wsV RL 54 RX5 yX5_line wsX5_line) := goodIn_app (goodIn_of _ (by decide +kernel)) ggL_conkers_X5_line
theorem dL_conkers_0 : decode cL_conkers 0 = .ok (.iconst 3, 1) := by decide +kernel
theorem dL_conkers_1 : decode cL_conkers 1 = .ok (.newarray .int, 2) := by decide +kernel
theorem dL_conkers_3 : decode cL_conkers 3 = .ok (.astore_n 1, 1) := by decide +kernel
theorem dL_conkers_4 : decode cL_conkers 4 = .ok (.iconst 0, 1) := by decide +kernel
theorem dL_conkers_5 : decode cL_conkers 5 = .ok (.istore_n 2, 1) := by decide +kernel
theorem dL_conkers_6 : decode cL_conkers 6 = .ok (.iconst 0, 1) := by decide +kernel
theorem dL_conkers_7 : decode cL_conkers 7 = .ok (.istore_n 3, 1) := by decide +kernel
theorem dL_conkers_8 : decode cL_conkers 8 = .ok (.iconst 0, 1) := by decide +kernel
theorem dL_conkers_9 : decode cL_conkers 9 = .ok (.istore 4, 2) := by decide +kernel
theorem dL_conkers_11 : decode cL_conkers 11 = .ok (.iconst 0, 1) := by decide +kernel
theorem dL_conkers_12 : decode cL_conkers 12 = .ok (.istore 5, 2) := by decide +kernel
theorem dL_conkers_14 : decode cL_conkers 14 = .ok (.iconst 0, 1) := by decide +kernel
theorem dL_conkers_15 : decode cL_conkers 15 = .ok (.istore 6, 2) := by decide +kernel
theorem dL_conkers_17 : decode cL_conkers 17 = .ok (.iconst 0, 1) := by decide +kernel
theorem dL_conkers_18 : decode cL_conkers 18 = .ok (.istore 7, 2) := by decide +kernel
theorem dL_conkers_20 : decode cL_conkers 20 = .ok (.iload 7, 2) := by decide +kernel
theorem dL_conkers_22 : decode cL_conkers 22 = .ok (.aload_n 0, 1) := by decide +kernel
theorem dL_conkers_23 : decode cL_conkers 23 = .ok (.iconst 0, 1) := by decide +kernel
theorem dL_conkers_24 : decode cL_conkers 24 = .ok (.invokevirtual 48, 3) := by decide +kernel
theorem dL_conkers_27 : decode cL_conkers 27 = .ok (.if_icmp .ge 329, 3) := by decide +kernel
theorem dL_conkers_30 : decode cL_conkers 30 = .ok (.aload_n 0, 1) := by decide +kernel
theorem dL_conkers_31 : decode cL_conkers 31 = .ok (.iload 7, 2) := by decide +kernel
theorem dL_conkers_33 : decode cL_conkers 33 = .ok (.bipush 6, 2) := by decide +kernel
theorem dL_conkers_35 : decode cL_conkers 35 = .ok (.invokevirtual 51, 3) := by decide +kernel
theorem dL_conkers_38 : decode cL_conkers 38 = .ok (.istore 8, 2) := by decide +kernel
theorem dL_conkers_40 : decode cL_conkers 40 = .ok (.aload_n 0, 1) := by decide +kernel
theorem dL_conkers_41 : decode cL_conkers 41 = .ok (.iload 7, 2) := by decide +kernel
theorem dL_conkers_43 : decode cL_conkers 43 = .ok (.bipush 7, 2) := by decide +kernel
theorem dL_conkers_45 : decode cL_conkers 45 = .ok (.invokevirtual 51, 3) := by decide +kernel
theorem dL_conkers_48 : decode cL_conkers 48 = .ok (.istore 9, 2) := by decide +kernel
theorem dL_conkers_50 : decode cL_conkers 50 = .ok (.aload_n 0, 1) := by decide +kernel
theorem dL_conkers_51 : decode cL_conkers 51 = .ok (.iload 7, 2) := by decide +kernel
theorem dL_conkers_53 : decode cL_conkers 53 = .ok (.iconst 5, 1) := by decide +kernel
theorem dL_conkers_54 : decode cL_conkers 54 = .ok (.invokevirtual 51, 3) := by decide +kernel
theorem dL_conkers_57 : decode cL_conkers 57 = .ok (.istore 10, 2) := by decide +kernel
theorem dL_conkers_59 : decode cL_conkers 59 = .ok (.aload_n 1, 1) := by decide +kernel
theorem dL_conkers_60 : decode cL_conkers 60 = .ok (.iload 8, 2) := by decide +kernel
theorem dL_conkers_62 : decode cL_conkers 62 = .ok (.dup2, 1) := by decide +kernel
end
section
theorem dL_conkers_63 : decode cL_conkers 63 = .ok (.iaload, 1) := by decide +kernel
theorem dL_conkers_64 : decode cL_conkers 64 = .ok (.iconst 1, 1) := by decide +kernel
theorem dL_conkers_65 : decode cL_conkers 65 = .ok (.iadd, 1) := by decide +kernel
theorem dL_conkers_66 : decode cL_conkers 66 = .ok (.iastore, 1) := by decide +kernel
theorem dL_conkers_67 : decode cL_conkers 67 = .ok (.iload_n 2, 1) := by decide +kernel
theorem dL_conkers_68 : decode cL_conkers 68 = .ok (.aload_n 0, 1) := by decide +kernel
theorem dL_conkers_69 : decode cL_conkers 69 = .ok (.iload 7, 2) := by decide +kernel
theorem dL_conkers_71 : decode cL_conkers 71 = .ok (.iconst 4, 1) := by decide +kernel
theorem dL_conkers_72 : decode cL_conkers 72 = .ok (.invokevirtual 51, 3) := by decide +kernel
theorem dL_conkers_75 : decode cL_conkers 75 = .ok (.iadd, 1) := by decide +kernel
theorem dL_conkers_76 : decode cL_conkers 76 = .ok (.istore_n 2, 1) := by decide +kernel
theorem dL_conkers_77 : decode cL_conkers 77 = .ok (.iload_n 3, 1) := by decide +kernel
theorem dL_conkers_78 : decode cL_conkers 78 = .ok (.iload 10, 2) := by decide +kernel
theorem dL_conkers_80 : decode cL_conkers 80 = .ok (.bipush (-5), 2) := by decide +kernel
theorem dL_conkers_82 : decode cL_conkers 82 = .ok (.if_icmp .ne 7, 3) := by decide +kernel
theorem dL_conkers_85 : decode cL_conkers 85 = .ok (.iconst 0, 1) := by decide +kernel
theorem dL_conkers_86 : decode cL_conkers 86 = .ok (.goto 4, 3) := by decide +kernel
theorem dL_conkers_89 : decode cL_conkers 89 = .ok (.iconst 1, 1) := by decide +kernel
theorem dL_conkers_90 : decode cL_conkers 90 = .ok (.iadd, 1) := by decide +kernel
theorem dL_conkers_91 : decode cL_conkers 91 = .ok (.istore_n 3, 1) := by decide +kernel
theorem dL_conkers_92 : decode cL_conkers 92 = .ok (.iload 4, 2) := by decide +kernel
theorem dL_conkers_94 : decode cL_conkers 94 = .ok (.iload 10, 2) := by decide +kernel
theorem dL_conkers_96 : decode cL_conkers 96 = .ok (.aload_n 0, 1) := by decide +kernel
theorem dL_conkers_97 : decode cL_conkers 97 = .ok (.iload 7, 2) := by decide +kernel
theorem dL_conkers_99 : decode cL_conkers 99 = .ok (.iconst 4, 1) := by decide +kernel
theorem dL_conkers_100 : decode cL_conkers 100 = .ok (.invokevirtual 51, 3) := by decide +kernel
theorem dL_conkers_103 : decode cL_conkers 103 = .ok (.if_icmp .le 7, 3) := by decide +kernel
theorem dL_conkers_106 : decode cL_conkers 106 = .ok (.iconst 1, 1) := by decide +kernel
theorem dL_conkers_107 : decode cL_conkers 107 = .ok (.goto 4, 3) := by decide +kernel
theorem dL_conkers_110 : decode cL_conkers 110 = .ok (.iconst 0, 1) := by decide +kernel
theorem dL_conkers_111 : decode cL_conkers 111 = .ok (.iadd, 1) := by decide +kernel
theorem dL_conkers_112 : decode cL_conkers 112 = .ok (.istore 4, 2) := by decide +kernel
theorem dL_conkers_114 : decode cL_conkers 114 = .ok (.iload 5, 2) := by decide +kernel
theorem dL_conkers_116 : decode cL_conkers 116 = .ok (.iload 9, 2) := by decide +kernel
theorem dL_conkers_118 : decode cL_conkers 118 = .ok (.bipush (-5), 2) := by decide +kernel
theorem dL_conkers_120 : decode cL_conkers 120 = .ok (.if_icmp .ne 7, 3) := by decide +kernel
theorem dL_conkers_123 : decode cL_conkers 123 = .ok (.iconst 0, 1) := by decide +kernel
theorem dL_conkers_124 : decode cL_conkers 124 = .ok (.goto 4, 3) := by decide +kernel
theorem dL_conkers_127 : decode cL_conkers 127 = .ok (.iconst 1, 1) := by decide +kernel
theorem dL_conkers_128 : decode cL_conkers 128 = .ok (.iadd, 1) := by decide +kernel
theorem dL_conkers_129 : decode cL_conkers 129 = .ok (.istore 5, 2) := by decide +kernel
theorem dL_conkers_131 : decode cL_conkers 131 = .ok (.iload 6, 2) := by decide +kernel
theorem dL_conkers_133 : decode cL_conkers 133 = .ok (.aload_n 0, 1) := by decide +kernel
theorem dL_conkers_134 : decode cL_conkers 134 = .ok (.iload 7, 2) := by decide +kernel
theorem dL_conkers_136 : decode cL_conkers 136 = .ok (.bipush 8, 2) := by decide +kernel
theorem dL_conkers_138 : decode cL_conkers 138 = .ok (.invokevirtual 51, 3) := by decide +kernel
theorem dL_conkers_141 : decode cL_conkers 141 = .ok (.iadd, 1) := by decide +kernel
theorem dL_conkers_142 : decode cL_conkers 142 = .ok (.istore 6, 2) := by decide +kernel
theorem dL_conkers_144 : decode cL_conkers 144 = .ok (.iconst 0, 1) := by decide +kernel
theorem dL_conkers_145 : decode cL_conkers 145 = .ok (.istore 11, 2) := by decide +kernel
theorem dL_conkers_147 : decode cL_conkers 147 = .ok (.iconst 0, 1) := by decide +kernel
theorem dL_conkers_148 : decode cL_conkers 148 = .ok (.istore 12, 2) := by decide +kernel
theorem dL_conkers_150 : decode cL_conkers 150 = .ok (.iload 12, 2) := by decide +kernel
theorem dL_conkers_152 : decode cL_conkers 152 = .ok (.aload_n 0, 1) := by decide +kernel
theorem dL_conkers_153 : decode cL_conkers 153 = .ok (.iconst 0, 1) := by decide +kernel
theorem dL_conkers_154 : decode cL_conkers 154 = .ok (.invokevirtual 48, 3) := by decide +kernel
theorem dL_conkers_157 : decode cL_conkers 157 = .ok (.if_icmp .ge 39, 3) := by decide +kernel
theorem dL_conkers_160 : decode cL_conkers 160 = .ok (.iload 11, 2) := by decide +kernel
theorem dL_conkers_162 : decode cL_conkers 162 = .ok (.aload_n 0, 1) := by decide +kernel
theorem dL_conkers_163 : decode cL_conkers 163 = .ok (.iload 12, 2) := by decide +kernel
theorem dL_conkers_165 : decode cL_conkers 165 = .ok (.bipush 7, 2) := by decide +kernel
theorem dL_conkers_167 : decode cL_conkers 167 = .ok (.invokevirtual 51, 3) := by decide +kernel
theorem dL_conkers_170 : decode cL_conkers 170 = .ok (.iload 7, 2) := by decide +kernel
theorem dL_conkers_172 : decode cL_conkers 172 = .ok (.if_icmp .ne 14, 3) := by decide +kernel
theorem dL_conkers_175 : decode cL_conkers 175 = .ok (.iconst 1, 1) := by decide +kernel
theorem dL_conkers_176 : decode cL_conkers 176 = .ok (.aload_n 0, 1) := by decide +kernel
theorem dL_conkers_177 : decode cL_conkers 177 = .ok (.iload 12, 2) := by decide +kernel
theorem dL_conkers_179 : decode cL_conkers 179 = .ok (.invokevirtual 54, 3) := by decide +kernel
theorem dL_conkers_182 : decode cL_conkers 182 = .ok (.iadd, 1) := by decide +kernel
theorem dL_conkers_183 : decode cL_conkers 183 = .ok (.goto 4, 3) := by decide +kernel
theorem dL_conkers_186 : decode cL_conkers 186 = .ok (.iconst 0, 1) := by decide +kernel
theorem dL_conkers_187 : decode cL_conkers 187 = .ok (.iadd, 1) := by decide +kernel
theorem dL_conkers_188 : decode cL_conkers 188 = .ok (.istore 11, 2) := by decide +kernel
theorem dL_conkers_190 : decode cL_conkers 190 = .ok (.iinc 12 1, 3) := by decide +kernel
theorem dL_conkers_193 : decode cL_conkers 193 = .ok (.goto (-43), 3) := by decide +kernel
theorem dL_conkers_196 : decode cL_conkers 196 = .ok (.iload 8, 2) := by decide +kernel
theorem dL_conkers_198 : decode cL_conkers 198 = .ok (.iconst 2, 1) := by decide +kernel
theorem dL_conkers_199 : decode cL_conkers 199 = .ok (.if_icmp .ne 23, 3) := by decide +kernel
theorem dL_conkers_202 : decode cL_conkers 202 = .ok (.aload_n 0, 1) := by decide +kernel
theorem dL_conkers_203 : decode cL_conkers 203 = .ok (.iload 7, 2) := by decide +kernel
theorem dL_conkers_205 : decode cL_conkers 205 = .ok (.iconst 4, 1) := by decide +kernel
theorem dL_conkers_206 : decode cL_conkers 206 = .ok (.invokevirtual 51, 3) := by decide +kernel
theorem dL_conkers_209 : decode cL_conkers 209 = .ok (.ifCond .ne 32, 3) := by decide +kernel
theorem dL_conkers_212 : decode cL_conkers 212 = .ok (.iload 10, 2) := by decide +kernel
theorem dL_conkers_214 : decode cL_conkers 214 = .ok (.bipush (-5), 2) := by decide +kernel
theorem dL_conkers_216 : decode cL_conkers 216 = .ok (.if_icmp .eq 27, 3) := by decide +kernel
theorem dL_conkers_219 : decode cL_conkers 219 = .ok (.goto 22, 3) := by decide +kernel
theorem dL_conkers_222 : decode cL_conkers 222 = .ok (.iload 9, 2) := by decide +kernel
theorem dL_conkers_224 : decode cL_conkers 224 = .ok (.bipush (-5), 2) := by decide +kernel
theorem dL_conkers_226 : decode cL_conkers 226 = .ok (.if_icmp .ne 15, 3) := by decide +kernel
theorem dL_conkers_229 : decode cL_conkers 229 = .ok (.aload_n 0, 1) := by decide +kernel
theorem dL_conkers_230 : decode cL_conkers 230 = .ok (.iload 7, 2) := by decide +kernel
theorem dL_conkers_232 : decode cL_conkers 232 = .ok (.iconst 2, 1) := by decide +kernel
theorem dL_conkers_233 : decode cL_conkers 233 = .ok (.invokevirtual 51, 3) := by decide +kernel
theorem dL_conkers_236 : decode cL_conkers 236 = .ok (.bipush 99, 2) := by decide +kernel
theorem dL_conkers_238 : decode cL_conkers 238 = .ok (.if_icmp .le 5, 3) := by decide +kernel
theorem dL_conkers_241 : decode cL_conkers 241 = .ok (.iconst 0, 1) := by decide +kernel
theorem dL_conkers_242 : decode cL_conkers 242 = .ok (.ireturn, 1) := by decide +kernel
theorem dL_conkers_243 : decode cL_conkers 243 = .ok (.iload 8, 2) := by decide +kernel
theorem dL_conkers_245 : decode cL_conkers 245 = .ok (.ifCond .ne 15, 3) := by decide +kernel
theorem dL_conkers_248 : decode cL_conkers 248 = .ok (.aload_n 0, 1) := by decide +kernel
theorem dL_conkers_249 : decode cL_conkers 249 = .ok (.iload 7, 2) := by decide +kernel
theorem dL_conkers_251 : decode cL_conkers 251 = .ok (.iconst 3, 1) := by decide +kernel
theorem dL_conkers_252 : decode cL_conkers 252 = .ok (.invokevirtual 51, 3) := by decide +kernel
theorem dL_conkers_255 : decode cL_conkers 255 = .ok (.bipush 19, 2) := by decide +kernel
theorem dL_conkers_257 : decode cL_conkers 257 = .ok (.if_icmp .gt 91, 3) := by decide +kernel
theorem dL_conkers_260 : decode cL_conkers 260 = .ok (.iload 8, 2) := by decide +kernel
theorem dL_conkers_262 : decode cL_conkers 262 = .ok (.iconst 1, 1) := by decide +kernel
theorem dL_conkers_263 : decode cL_conkers 263 = .ok (.if_icmp .ne 15, 3) := by decide +kernel
theorem dL_conkers_266 : decode cL_conkers 266 = .ok (.aload_n 0, 1) := by decide +kernel
theorem dL_conkers_267 : decode cL_conkers 267 = .ok (.iload 7, 2) := by decide +kernel
theorem dL_conkers_269 : decode cL_conkers 269 = .ok (.iconst 3, 1) := by decide +kernel
theorem dL_conkers_270 : decode cL_conkers 270 = .ok (.invokevirtual 51, 3) := by decide +kernel
theorem dL_conkers_273 : decode cL_conkers 273 = .ok (.bipush 20, 2) := by decide +kernel
theorem dL_conkers_275 : decode cL_conkers 275 = .ok (.if_icmp .ne 73, 3) := by decide +kernel
theorem dL_conkers_278 : decode cL_conkers 278 = .ok (.aload_n 0, 1) := by decide +kernel
theorem dL_conkers_279 : decode cL_conkers 279 = .ok (.iload 7, 2) := by decide +kernel
theorem dL_conkers_281 : decode cL_conkers 281 = .ok (.iconst 2, 1) := by decide +kernel
theorem dL_conkers_282 : decode cL_conkers 282 = .ok (.invokevirtual 51, 3) := by decide +kernel
theorem dL_conkers_285 : decode cL_conkers 285 = .ok (.bipush 100, 2) := by decide +kernel
theorem dL_conkers_287 : decode cL_conkers 287 = .ok (.if_icmp .gt 61, 3) := by decide +kernel
theorem dL_conkers_290 : decode cL_conkers 290 = .ok (.iload 9, 2) := by decide +kernel
theorem dL_conkers_292 : decode cL_conkers 292 = .ok (.ifCond .lt 32, 3) := by decide +kernel
theorem dL_conkers_295 : decode cL_conkers 295 = .ok (.aload_n 0, 1) := by decide +kernel
theorem dL_conkers_296 : decode cL_conkers 296 = .ok (.iload 9, 2) := by decide +kernel
theorem dL_conkers_298 : decode cL_conkers 298 = .ok (.iconst 0, 1) := by decide +kernel
theorem dL_conkers_299 : decode cL_conkers 299 = .ok (.invokevirtual 51, 3) := by decide +kernel
theorem dL_conkers_302 : decode cL_conkers 302 = .ok (.aload_n 0, 1) := by decide +kernel
theorem dL_conkers_303 : decode cL_conkers 303 = .ok (.iload 7, 2) := by decide +kernel
theorem dL_conkers_305 : decode cL_conkers 305 = .ok (.iconst 0, 1) := by decide +kernel
theorem dL_conkers_306 : decode cL_conkers 306 = .ok (.invokevirtual 51, 3) := by decide +kernel
theorem dL_conkers_309 : decode cL_conkers 309 = .ok (.if_icmp .eq 39, 3) := by decide +kernel
theorem dL_conkers_312 : decode cL_conkers 312 = .ok (.aload_n 0, 1) := by decide +kernel
theorem dL_conkers_313 : decode cL_conkers 313 = .ok (.iload 7, 2) := by decide +kernel
theorem dL_conkers_315 : decode cL_conkers 315 = .ok (.iconst 2, 1) := by decide +kernel
theorem dL_conkers_316 : decode cL_conkers 316 = .ok (.invokevirtual 51, 3) := by decide +kernel
theorem dL_conkers_319 : decode cL_conkers 319 = .ok (.bipush 100, 2) := by decide +kernel
theorem dL_conkers_321 : decode cL_conkers 321 = .ok (.if_icmp .ne 27, 3) := by decide +kernel
theorem dL_conkers_324 : decode cL_conkers 324 = .ok (.aload_n 0, 1) := by decide +kernel
theorem dL_conkers_325 : decode cL_conkers 325 = .ok (.iload 7, 2) := by decide +kernel
theorem dL_conkers_327 : decode cL_conkers 327 = .ok (.invokevirtual 54, 3) := by decide +kernel
theorem dL_conkers_330 : decode cL_conkers 330 = .ok (.iload 11, 2) := by decide +kernel
theorem dL_conkers_332 : decode cL_conkers 332 = .ok (.if_icmp .ne 16, 3) := by decide +kernel
theorem dL_conkers_335 : decode cL_conkers 335 = .ok (.aload_n 0, 1) := by decide +kernel
theorem dL_conkers_336 : decode cL_conkers 336 = .ok (.iload 7, 2) := by decide +kernel
theorem dL_conkers_338 : decode cL_conkers 338 = .ok (.bipush 8, 2) := by decide +kernel
theorem dL_conkers_340 : decode cL_conkers 340 = .ok (.invokevirtual 51, 3) := by decide +kernel
theorem dL_conkers_343 : decode cL_conkers 343 = .ok (.iload 11, 2) := by decide +kernel
theorem dL_conkers_345 : decode cL_conkers 345 = .ok (.if_icmp .le 5, 3) := by decide +kernel
theorem dL_conkers_348 : decode cL_conkers 348 = .ok (.iconst 0, 1) := by decide +kernel
theorem dL_conkers_349 : decode cL_conkers 349 = .ok (.ireturn, 1) := by decide +kernel
theorem dL_conkers_350 : decode cL_conkers 350 = .ok (.iinc 7 1, 3) := by decide +kernel
theorem dL_conkers_353 : decode cL_conkers 353 = .ok (.goto (-333), 3) := by decide +kernel
theorem dL_conkers_356 : decode cL_conkers 356 = .ok (.aload_n 0, 1) := by decide +kernel
theorem dL_conkers_357 : decode cL_conkers 357 = .ok (.iconst 1, 1) := by decide +kernel
theorem dL_conkers_358 : decode cL_conkers 358 = .ok (.invokevirtual 48, 3) := by decide +kernel
theorem dL_conkers_361 : decode cL_conkers 361 = .ok (.aload_n 1, 1) := by decide +kernel
theorem dL_conkers_362 : decode cL_conkers 362 = .ok (.iconst 0, 1) := by decide +kernel
theorem dL_conkers_363 : decode cL_conkers 363 = .ok (.iaload, 1) := by decide +kernel
theorem dL_conkers_364 : decode cL_conkers 364 = .ok (.if_icmp .ne 77, 3) := by decide +kernel
theorem dL_conkers_367 : decode cL_conkers 367 = .ok (.aload_n 0, 1) := by decide +kernel
theorem dL_conkers_368 : decode cL_conkers 368 = .ok (.iconst 2, 1) := by decide +kernel
theorem dL_conkers_369 : decode cL_conkers 369 = .ok (.invokevirtual 48, 3) := by decide +kernel
theorem dL_conkers_372 : decode cL_conkers 372 = .ok (.aload_n 1, 1) := by decide +kernel
theorem dL_conkers_373 : decode cL_conkers 373 = .ok (.iconst 1, 1) := by decide +kernel
theorem dL_conkers_374 : decode cL_conkers 374 = .ok (.iaload, 1) := by decide +kernel
theorem dL_conkers_375 : decode cL_conkers 375 = .ok (.if_icmp .ne 66, 3) := by decide +kernel
theorem dL_conkers_378 : decode cL_conkers 378 = .ok (.aload_n 0, 1) := by decide +kernel
theorem dL_conkers_379 : decode cL_conkers 379 = .ok (.iconst 3, 1) := by decide +kernel
theorem dL_conkers_380 : decode cL_conkers 380 = .ok (.invokevirtual 48, 3) := by decide +kernel
theorem dL_conkers_383 : decode cL_conkers 383 = .ok (.aload_n 1, 1) := by decide +kernel
theorem dL_conkers_384 : decode cL_conkers 384 = .ok (.iconst 2, 1) := by decide +kernel
theorem dL_conkers_385 : decode cL_conkers 385 = .ok (.iaload, 1) := by decide +kernel
theorem dL_conkers_386 : decode cL_conkers 386 = .ok (.if_icmp .ne 55, 3) := by decide +kernel
theorem dL_conkers_389 : decode cL_conkers 389 = .ok (.aload_n 0, 1) := by decide +kernel
theorem dL_conkers_390 : decode cL_conkers 390 = .ok (.iconst 4, 1) := by decide +kernel
theorem dL_conkers_391 : decode cL_conkers 391 = .ok (.invokevirtual 48, 3) := by decide +kernel
theorem dL_conkers_394 : decode cL_conkers 394 = .ok (.iload_n 2, 1) := by decide +kernel
theorem dL_conkers_395 : decode cL_conkers 395 = .ok (.if_icmp .ne 46, 3) := by decide +kernel
theorem dL_conkers_398 : decode cL_conkers 398 = .ok (.aload_n 0, 1) := by decide +kernel
theorem dL_conkers_399 : decode cL_conkers 399 = .ok (.bipush 8, 2) := by decide +kernel
theorem dL_conkers_401 : decode cL_conkers 401 = .ok (.invokevirtual 48, 3) := by decide +kernel
theorem dL_conkers_404 : decode cL_conkers 404 = .ok (.iload_n 3, 1) := by decide +kernel
theorem dL_conkers_405 : decode cL_conkers 405 = .ok (.if_icmp .ne 36, 3) := by decide +kernel
theorem dL_conkers_408 : decode cL_conkers 408 = .ok (.aload_n 0, 1) := by decide +kernel
theorem dL_conkers_409 : decode cL_conkers 409 = .ok (.bipush 9, 2) := by decide +kernel
theorem dL_conkers_411 : decode cL_conkers 411 = .ok (.invokevirtual 48, 3) := by decide +kernel
theorem dL_conkers_414 : decode cL_conkers 414 = .ok (.iload 4, 2) := by decide +kernel
theorem dL_conkers_416 : decode cL_conkers 416 = .ok (.if_icmp .ne 25, 3) := by decide +kernel
theorem dL_conkers_419 : decode cL_conkers 419 = .ok (.aload_n 0, 1) := by decide +kernel
theorem dL_conkers_420 : decode cL_conkers 420 = .ok (.bipush 7, 2) := by decide +kernel
theorem dL_conkers_422 : decode cL_conkers 422 = .ok (.invokevirtual 48, 3) := by decide +kernel
theorem dL_conkers_425 : decode cL_conkers 425 = .ok (.iload 5, 2) := by decide +kernel
theorem dL_conkers_427 : decode cL_conkers 427 = .ok (.if_icmp .ne 14, 3) := by decide +kernel
theorem dL_conkers_430 : decode cL_conkers 430 = .ok (.iload 6, 2) := by decide +kernel
theorem dL_conkers_432 : decode cL_conkers 432 = .ok (.iload 5, 2) := by decide +kernel
theorem dL_conkers_434 : decode cL_conkers 434 = .ok (.if_icmp .ne 7, 3) := by decide +kernel
theorem dL_conkers_437 : decode cL_conkers 437 = .ok (.iconst 1, 1) := by decide +kernel
theorem dL_conkers_438 : decode cL_conkers 438 = .ok (.goto 4, 3) := by decide +kernel
theorem dL_conkers_441 : decode cL_conkers 441 = .ok (.iconst 0, 1) := by decide +kernel
theorem dL_conkers_442 : decode cL_conkers 442 = .ok (.istore 7, 2) := by decide +kernel
theorem dL_conkers_444 : decode cL_conkers 444 = .ok (.iload 7, 2) := by decide +kernel
theorem dL_conkers_446 : decode cL_conkers 446 = .ok (.ifCond .eq 23, 3) := by decide +kernel
theorem dL_conkers_449 : decode cL_conkers 449 = .ok (.iload_n 2, 1) := by decide +kernel
theorem dL_conkers_450 : decode cL_conkers 450 = .ok (.aload_n 0, 1) := by decide +kernel
theorem dL_conkers_451 : decode cL_conkers 451 = .ok (.iconst 5, 1) := by decide +kernel
theorem dL_conkers_452 : decode cL_conkers 452 = .ok (.invokevirtual 48, 3) := by decide +kernel
theorem dL_conkers_455 : decode cL_conkers 455 = .ok (.iadd, 1) := by decide +kernel
theorem dL_conkers_456 : decode cL_conkers 456 = .ok (.aload_n 0, 1) := by decide +kernel
theorem dL_conkers_457 : decode cL_conkers 457 = .ok (.bipush 7, 2) := by decide +kernel
theorem dL_conkers_459 : decode cL_conkers 459 = .ok (.invokevirtual 48, 3) := by decide +kernel
theorem dL_conkers_462 : decode cL_conkers 462 = .ok (.if_icmp .ne 7, 3) := by decide +kernel
theorem dL_conkers_465 : decode cL_conkers 465 = .ok (.iconst 1, 1) := by decide +kernel
theorem dL_conkers_466 : decode cL_conkers 466 = .ok (.goto 4, 3) := by decide +kernel
theorem dL_conkers_469 : decode cL_conkers 469 = .ok (.iconst 0, 1) := by decide +kernel
theorem dL_conkers_470 : decode cL_conkers 470 = .ok (.ireturn, 1) := by decide +kernel
set_option maxRecDepth 20000 in
theorem ggL_hangs_X5_count : GoodIn wsL_hangs wsX5_count := goodIn_r _ [5, 6, 7, 8, 9, 10, 11, 12, 13, 14, 15, 16, 17, 18, 19, 20, 21, 22, 23, 24, 25, 26, 27, 28, 29, 30, 31, 32, 33, 34, 35, 36, 37, 38, 39, 40, 41, 42, 43, 44, 45, 46, 47, 48, 116, 117, 118, 119, 120, 121, 122, 123, 124, 125, 126, 127, 128, 129, 130, 131, 132, 133, 134, 135, 136, 137, 138, 139, 140, 141, 142, 143, 144, 145] (by decide +kernel) (by decide +kernel)
set_option maxRecDepth 20000 in
theorem gL_hangs_X5_count : GoodIn wsL_hangs (wsV RL 48 RX5 yX5_count wsX5_count) := goodIn_app (goodIn_of _ (by decide +kernel)) ggL_hangs_X5_count
set_option maxRecDepth 20000 in
theorem ggL_hangs_X5_ranked : GoodIn wsL_hangs wsX5_ranked := goodIn_r _ [52, 6, 53, 54, 55, 17, 56, 19, 20, 57, 58, 59, 60, 30, 116, 117, 118, 119, 120, 121, 122, 123, 124, 125, 126, 127, 128, 129, 130, 131, 132, 133, 134, 135, 136] (by decide +kernel) (by decide +kernel)
set_option maxRecDepth 20000 in
theorem gL_hangs_X5_ranked : GoodIn wsL_hangs (wsV RL 57 RX5 yX5_ranked wsX5_ranked) := goodIn_app (goodIn_of _ (by decide +kernel)) ggL_hangs_X5_ranked
set_option maxRecDepth 20000 in
theorem ggL_hangs_X5_conker : GoodIn wsL_hangs wsX5_conker := goodIn_r _ [64, 6, 65, 66, 67, 68, 69, 70, 71, 72, 73, 74, 75, 17, 76, 19, 77, 4, 78, 79, 36, 37, 38, 39, 116, 117, 118, 119, 120, 121, 122, 123, 124, 125, 126, 127, 128, 129, 130, 131, 132, 133, 134, 135, 136] (by decide +kernel) (by decide +kernel)
set_option maxRecDepth 20000 in
theorem gL_hangs_X5_conker : GoodIn wsL_hangs (wsV RL 51 RX5 yX5_conker wsX5_conker) := goodIn_app (goodIn_of _ (by decide +kernel)) ggL_hangs_X5_conker
set_option maxRecDepth 20000 in
theorem ggL_hangs_X5_player : GoodIn wsL_hangs wsX5_player := goodIn_r _ [83, 6, 84, 85, 86, 87, 4, 88, 89, 77, 78, 14, 15, 16, 17, 18, 19, 20, 21, 22, 23, 24, 25, 26, 27, 28, 29, 30, 90, 91, 92, 93, 116, 117, 118, 119, 120, 121, 122, 123, 124, 125, 126, 127, 128, 129, 130, 131, 132, 133, 134, 135, 136] (by decide +kernel) (by decide +kernel)
set_option maxRecDepth 20000 in
theorem gL_hangs_X5_player : GoodIn wsL_hangs (wsV RL 60 RX5 yX5_player wsX5_player) := goodIn_app (goodIn_of _ (by decide +kernel)) ggL_hangs_X5_player
set_option maxRecDepth 20000 in
theorem ggL_hangs_X5_share : GoodIn wsL_hangs wsX5_share := goodIn_r _ [97, 6, 26, 27, 28, 17, 29, 19, 30, 21, 22, 23, 24, 25, 86, 87, 4, 88, 89, 77, 78, 116, 117, 118, 119, 120, 121, 122, 123, 124, 125, 126, 127, 128, 129, 130, 131, 132, 133, 134, 135, 136] (by decide +kernel) (by decide +kernel)
set_option maxRecDepth 20000 in
theorem gL_hangs_X5_share : GoodIn wsL_hangs (wsV RL 63 RX5 yX5_share wsX5_share) := goodIn_app (goodIn_of _ (by decide +kernel)) ggL_hangs_X5_share
set_option maxRecDepth 20000 in
theorem ggL_hangs_L_conkers : GoodIn wsL_hangs wsL_conkers := goodIn_r _ [101, 102, 1, 2, 3, 4, 5, 6, 7, 8, 9, 10, 11, 12, 13, 14, 15, 16, 17, 18, 19, 20, 21, 22, 23, 24, 25, 26, 27, 28, 29, 30, 31, 32, 33, 34, 35, 36, 37, 38, 39, 40, 41, 42, 43, 44, 45, 46, 47, 48, 61, 62, 63, 64, 65, 66, 67, 68, 69, 70, 71, 72, 73, 74, 75, 76, 77, 78, 79, 103, 104, 105, 106, 107, 108, 109, 110, 111, 112, 113, 114, 115, 116, 117, 118, 119, 120, 121, 122, 123, 124, 125, 126, 127, 128, 129, 130, 131, 132, 133, 134, 135, 136, 137, 138, 139, 140, 141, 142, 143, 144, 145] (by decide +kernel) (by decide +kernel)
set_option maxRecDepth 20000 in
theorem gL_hangs_L_conkers : GoodIn wsL_hangs (va_wsS RL 67 yL_conkers wsL_conkers) := goodIn_app (goodIn_of _ (by decide +kernel)) ggL_hangs_L_conkers
theorem dL_hangs_0 : decode cL_hangs 0 = .ok (.aload_n 0, 1) := by decide +kernel
theorem dL_hangs_1 : decode cL_hangs 1 = .ok (.iconst 1, 1) := by decide +kernel
theorem dL_hangs_2 : decode cL_hangs 2 = .ok (.invokevirtual 48, 3) := by decide +kernel
theorem dL_hangs_5 : decode cL_hangs 5 = .ok (.aload_n 0, 1) := by decide +kernel
theorem dL_hangs_6 : decode cL_hangs 6 = .ok (.iconst 2, 1) := by decide +kernel
theorem dL_hangs_7 : decode cL_hangs 7 = .ok (.invokevirtual 48, 3) := by decide +kernel
theorem dL_hangs_10 : decode cL_hangs 10 = .ok (.iadd, 1) := by decide +kernel
theorem dL_hangs_11 : decode cL_hangs 11 = .ok (.istore_n 1, 1) := by decide +kernel
theorem dL_hangs_12 : decode cL_hangs 12 = .ok (.iconst (-1), 1) := by decide +kernel
theorem dL_hangs_13 : decode cL_hangs 13 = .ok (.istore_n 2, 1) := by decide +kernel
theorem dL_hangs_14 : decode cL_hangs 14 = .ok (.iconst 0, 1) := by decide +kernel
theorem dL_hangs_15 : decode cL_hangs 15 = .ok (.istore_n 3, 1) := by decide +kernel
theorem dL_hangs_16 : decode cL_hangs 16 = .ok (.iload_n 3, 1) := by decide +kernel
theorem dL_hangs_17 : decode cL_hangs 17 = .ok (.iload_n 1, 1) := by decide +kernel
theorem dL_hangs_18 : decode cL_hangs 18 = .ok (.if_icmp .ge 80, 3) := by decide +kernel
theorem dL_hangs_21 : decode cL_hangs 21 = .ok (.aload_n 0, 1) := by decide +kernel
theorem dL_hangs_22 : decode cL_hangs 22 = .ok (.iload_n 3, 1) := by decide +kernel
theorem dL_hangs_23 : decode cL_hangs 23 = .ok (.invokevirtual 57, 3) := by decide +kernel
theorem dL_hangs_26 : decode cL_hangs 26 = .ok (.istore 4, 2) := by decide +kernel
theorem dL_hangs_28 : decode cL_hangs 28 = .ok (.iload 4, 2) := by decide +kernel
theorem dL_hangs_30 : decode cL_hangs 30 = .ok (.ifCond .lt 57, 3) := by decide +kernel
theorem dL_hangs_33 : decode cL_hangs 33 = .ok (.aload_n 0, 1) := by decide +kernel
theorem dL_hangs_34 : decode cL_hangs 34 = .ok (.iload 4, 2) := by decide +kernel
theorem dL_hangs_36 : decode cL_hangs 36 = .ok (.bipush 6, 2) := by decide +kernel
theorem dL_hangs_38 : decode cL_hangs 38 = .ok (.invokevirtual 51, 3) := by decide +kernel
theorem dL_hangs_41 : decode cL_hangs 41 = .ok (.iconst 2, 1) := by decide +kernel
theorem dL_hangs_42 : decode cL_hangs 42 = .ok (.if_icmp .eq 45, 3) := by decide +kernel
theorem dL_hangs_45 : decode cL_hangs 45 = .ok (.iload_n 2, 1) := by decide +kernel
theorem dL_hangs_46 : decode cL_hangs 46 = .ok (.ifCond .lt 43, 3) := by decide +kernel
theorem dL_hangs_49 : decode cL_hangs 49 = .ok (.aload_n 0, 1) := by decide +kernel
theorem dL_hangs_50 : decode cL_hangs 50 = .ok (.iload 4, 2) := by decide +kernel
theorem dL_hangs_52 : decode cL_hangs 52 = .ok (.iconst 4, 1) := by decide +kernel
theorem dL_hangs_53 : decode cL_hangs 53 = .ok (.invokevirtual 51, 3) := by decide +kernel
theorem dL_hangs_56 : decode cL_hangs 56 = .ok (.aload_n 0, 1) := by decide +kernel
theorem dL_hangs_57 : decode cL_hangs 57 = .ok (.iload_n 2, 1) := by decide +kernel
theorem dL_hangs_58 : decode cL_hangs 58 = .ok (.iconst 4, 1) := by decide +kernel
theorem dL_hangs_59 : decode cL_hangs 59 = .ok (.invokevirtual 51, 3) := by decide +kernel
theorem dL_hangs_62 : decode cL_hangs 62 = .ok (.if_icmp .gt 25, 3) := by decide +kernel
theorem dL_hangs_65 : decode cL_hangs 65 = .ok (.aload_n 0, 1) := by decide +kernel
theorem dL_hangs_66 : decode cL_hangs 66 = .ok (.iload 4, 2) := by decide +kernel
theorem dL_hangs_68 : decode cL_hangs 68 = .ok (.iconst 4, 1) := by decide +kernel
theorem dL_hangs_69 : decode cL_hangs 69 = .ok (.invokevirtual 51, 3) := by decide +kernel
theorem dL_hangs_72 : decode cL_hangs 72 = .ok (.aload_n 0, 1) := by decide +kernel
theorem dL_hangs_73 : decode cL_hangs 73 = .ok (.iload_n 2, 1) := by decide +kernel
theorem dL_hangs_74 : decode cL_hangs 74 = .ok (.iconst 4, 1) := by decide +kernel
theorem dL_hangs_75 : decode cL_hangs 75 = .ok (.invokevirtual 51, 3) := by decide +kernel
theorem dL_hangs_78 : decode cL_hangs 78 = .ok (.if_icmp .ne 11, 3) := by decide +kernel
theorem dL_hangs_81 : decode cL_hangs 81 = .ok (.iload 4, 2) := by decide +kernel
theorem dL_hangs_83 : decode cL_hangs 83 = .ok (.iload_n 2, 1) := by decide +kernel
theorem dL_hangs_84 : decode cL_hangs 84 = .ok (.if_icmp .ge 5, 3) := by decide +kernel
theorem dL_hangs_87 : decode cL_hangs 87 = .ok (.iconst 0, 1) := by decide +kernel
theorem dL_hangs_88 : decode cL_hangs 88 = .ok (.ireturn, 1) := by decide +kernel
theorem dL_hangs_89 : decode cL_hangs 89 = .ok (.iload 4, 2) := by decide +kernel
theorem dL_hangs_91 : decode cL_hangs 91 = .ok (.istore_n 2, 1) := by decide +kernel
theorem dL_hangs_92 : decode cL_hangs 92 = .ok (.iinc 3 1, 3) := by decide +kernel
theorem dL_hangs_95 : decode cL_hangs 95 = .ok (.goto (-79), 3) := by decide +kernel
theorem dL_hangs_98 : decode cL_hangs 98 = .ok (.iconst 0, 1) := by decide +kernel
theorem dL_hangs_99 : decode cL_hangs 99 = .ok (.istore_n 3, 1) := by decide +kernel
theorem dL_hangs_100 : decode cL_hangs 100 = .ok (.iconst 0, 1) := by decide +kernel
theorem dL_hangs_101 : decode cL_hangs 101 = .ok (.istore 4, 2) := by decide +kernel
theorem dL_hangs_103 : decode cL_hangs 103 = .ok (.iload 4, 2) := by decide +kernel
theorem dL_hangs_105 : decode cL_hangs 105 = .ok (.bipush 6, 2) := by decide +kernel
theorem dL_hangs_107 : decode cL_hangs 107 = .ok (.if_icmp .ge 298, 3) := by decide +kernel
theorem dL_hangs_110 : decode cL_hangs 110 = .ok (.aload_n 0, 1) := by decide +kernel
theorem dL_hangs_111 : decode cL_hangs 111 = .ok (.iload 4, 2) := by decide +kernel
theorem dL_hangs_113 : decode cL_hangs 113 = .ok (.bipush 6, 2) := by decide +kernel
theorem dL_hangs_115 : decode cL_hangs 115 = .ok (.invokevirtual 60, 3) := by decide +kernel
theorem dL_hangs_118 : decode cL_hangs 118 = .ok (.istore 5, 2) := by decide +kernel
theorem dL_hangs_120 : decode cL_hangs 120 = .ok (.aload_n 0, 1) := by decide +kernel
theorem dL_hangs_121 : decode cL_hangs 121 = .ok (.iload 4, 2) := by decide +kernel
theorem dL_hangs_123 : decode cL_hangs 123 = .ok (.iconst 2, 1) := by decide +kernel
theorem dL_hangs_124 : decode cL_hangs 124 = .ok (.invokevirtual 60, 3) := by decide +kernel
theorem dL_hangs_127 : decode cL_hangs 127 = .ok (.aload_n 0, 1) := by decide +kernel
theorem dL_hangs_128 : decode cL_hangs 128 = .ok (.iload 4, 2) := by decide +kernel
theorem dL_hangs_130 : decode cL_hangs 130 = .ok (.iconst 3, 1) := by decide +kernel
theorem dL_hangs_131 : decode cL_hangs 131 = .ok (.invokevirtual 60, 3) := by decide +kernel
theorem dL_hangs_134 : decode cL_hangs 134 = .ok (.iadd, 1) := by decide +kernel
theorem dL_hangs_135 : decode cL_hangs 135 = .ok (.aload_n 0, 1) := by decide +kernel
theorem dL_hangs_136 : decode cL_hangs 136 = .ok (.iload 4, 2) := by decide +kernel
theorem dL_hangs_138 : decode cL_hangs 138 = .ok (.iconst 4, 1) := by decide +kernel
theorem dL_hangs_139 : decode cL_hangs 139 = .ok (.invokevirtual 60, 3) := by decide +kernel
theorem dL_hangs_142 : decode cL_hangs 142 = .ok (.iadd, 1) := by decide +kernel
theorem dL_hangs_143 : decode cL_hangs 143 = .ok (.istore 6, 2) := by decide +kernel
theorem dL_hangs_145 : decode cL_hangs 145 = .ok (.iconst 0, 1) := by decide +kernel
theorem dL_hangs_146 : decode cL_hangs 146 = .ok (.istore 7, 2) := by decide +kernel
theorem dL_hangs_148 : decode cL_hangs 148 = .ok (.iconst 0, 1) := by decide +kernel
theorem dL_hangs_149 : decode cL_hangs 149 = .ok (.istore 8, 2) := by decide +kernel
theorem dL_hangs_151 : decode cL_hangs 151 = .ok (.iload 8, 2) := by decide +kernel
theorem dL_hangs_153 : decode cL_hangs 153 = .ok (.aload_n 0, 1) := by decide +kernel
theorem dL_hangs_154 : decode cL_hangs 154 = .ok (.iconst 0, 1) := by decide +kernel
theorem dL_hangs_155 : decode cL_hangs 155 = .ok (.invokevirtual 48, 3) := by decide +kernel
theorem dL_hangs_158 : decode cL_hangs 158 = .ok (.if_icmp .ge 107, 3) := by decide +kernel
theorem dL_hangs_161 : decode cL_hangs 161 = .ok (.aload_n 0, 1) := by decide +kernel
theorem dL_hangs_162 : decode cL_hangs 162 = .ok (.iload 8, 2) := by decide +kernel
theorem dL_hangs_164 : decode cL_hangs 164 = .ok (.iconst 0, 1) := by decide +kernel
theorem dL_hangs_165 : decode cL_hangs 165 = .ok (.invokevirtual 51, 3) := by decide +kernel
theorem dL_hangs_168 : decode cL_hangs 168 = .ok (.iload 4, 2) := by decide +kernel
theorem dL_hangs_170 : decode cL_hangs 170 = .ok (.if_icmp .ne 7, 3) := by decide +kernel
theorem dL_hangs_173 : decode cL_hangs 173 = .ok (.iconst 1, 1) := by decide +kernel
theorem dL_hangs_174 : decode cL_hangs 174 = .ok (.goto 4, 3) := by decide +kernel
theorem dL_hangs_177 : decode cL_hangs 177 = .ok (.iconst 0, 1) := by decide +kernel
theorem dL_hangs_178 : decode cL_hangs 178 = .ok (.istore 9, 2) := by decide +kernel
theorem dL_hangs_180 : decode cL_hangs 180 = .ok (.iload 7, 2) := by decide +kernel
theorem dL_hangs_182 : decode cL_hangs 182 = .ok (.iload 9, 2) := by decide +kernel
theorem dL_hangs_184 : decode cL_hangs 184 = .ok (.ifCond .eq 7, 3) := by decide +kernel
theorem dL_hangs_187 : decode cL_hangs 187 = .ok (.iconst 1, 1) := by decide +kernel
theorem dL_hangs_188 : decode cL_hangs 188 = .ok (.goto 4, 3) := by decide +kernel
theorem dL_hangs_191 : decode cL_hangs 191 = .ok (.iconst 0, 1) := by decide +kernel
theorem dL_hangs_192 : decode cL_hangs 192 = .ok (.iadd, 1) := by decide +kernel
theorem dL_hangs_193 : decode cL_hangs 193 = .ok (.istore 7, 2) := by decide +kernel
theorem dL_hangs_195 : decode cL_hangs 195 = .ok (.iload 9, 2) := by decide +kernel
theorem dL_hangs_197 : decode cL_hangs 197 = .ok (.ifCond .eq 62, 3) := by decide +kernel
theorem dL_hangs_200 : decode cL_hangs 200 = .ok (.aload_n 0, 1) := by decide +kernel
theorem dL_hangs_201 : decode cL_hangs 201 = .ok (.iload 8, 2) := by decide +kernel
theorem dL_hangs_203 : decode cL_hangs 203 = .ok (.bipush 6, 2) := by decide +kernel
theorem dL_hangs_205 : decode cL_hangs 205 = .ok (.invokevirtual 51, 3) := by decide +kernel
theorem dL_hangs_208 : decode cL_hangs 208 = .ok (.ifCond .ne 51, 3) := by decide +kernel
theorem dL_hangs_211 : decode cL_hangs 211 = .ok (.iload 5, 2) := by decide +kernel
theorem dL_hangs_213 : decode cL_hangs 213 = .ok (.ifCond .lt 44, 3) := by decide +kernel
theorem dL_hangs_216 : decode cL_hangs 216 = .ok (.aload_n 0, 1) := by decide +kernel
theorem dL_hangs_217 : decode cL_hangs 217 = .ok (.iload 8, 2) := by decide +kernel
theorem dL_hangs_219 : decode cL_hangs 219 = .ok (.iconst 4, 1) := by decide +kernel
theorem dL_hangs_220 : decode cL_hangs 220 = .ok (.invokevirtual 51, 3) := by decide +kernel
theorem dL_hangs_223 : decode cL_hangs 223 = .ok (.aload_n 0, 1) := by decide +kernel
theorem dL_hangs_224 : decode cL_hangs 224 = .ok (.iload 5, 2) := by decide +kernel
theorem dL_hangs_226 : decode cL_hangs 226 = .ok (.iconst 4, 1) := by decide +kernel
theorem dL_hangs_227 : decode cL_hangs 227 = .ok (.invokevirtual 51, 3) := by decide +kernel
theorem dL_hangs_230 : decode cL_hangs 230 = .ok (.if_icmp .gt 27, 3) := by decide +kernel
theorem dL_hangs_233 : decode cL_hangs 233 = .ok (.aload_n 0, 1) := by decide +kernel
theorem dL_hangs_234 : decode cL_hangs 234 = .ok (.iload 8, 2) := by decide +kernel
theorem dL_hangs_236 : decode cL_hangs 236 = .ok (.iconst 4, 1) := by decide +kernel
theorem dL_hangs_237 : decode cL_hangs 237 = .ok (.invokevirtual 51, 3) := by decide +kernel
theorem dL_hangs_240 : decode cL_hangs 240 = .ok (.aload_n 0, 1) := by decide +kernel
theorem dL_hangs_241 : decode cL_hangs 241 = .ok (.iload 5, 2) := by decide +kernel
theorem dL_hangs_243 : decode cL_hangs 243 = .ok (.iconst 4, 1) := by decide +kernel
theorem dL_hangs_244 : decode cL_hangs 244 = .ok (.invokevirtual 51, 3) := by decide +kernel
theorem dL_hangs_247 : decode cL_hangs 247 = .ok (.if_icmp .ne 12, 3) := by decide +kernel
theorem dL_hangs_250 : decode cL_hangs 250 = .ok (.iload 8, 2) := by decide +kernel
theorem dL_hangs_252 : decode cL_hangs 252 = .ok (.iload 5, 2) := by decide +kernel
theorem dL_hangs_254 : decode cL_hangs 254 = .ok (.if_icmp .ge 5, 3) := by decide +kernel
theorem dL_hangs_257 : decode cL_hangs 257 = .ok (.iconst 0, 1) := by decide +kernel
theorem dL_hangs_258 : decode cL_hangs 258 = .ok (.ireturn, 1) := by decide +kernel
theorem dL_hangs_259 : decode cL_hangs 259 = .ok (.iinc 8 1, 3) := by decide +kernel
theorem dL_hangs_262 : decode cL_hangs 262 = .ok (.goto (-111), 3) := by decide +kernel
theorem dL_hangs_265 : decode cL_hangs 265 = .ok (.iload_n 3, 1) := by decide +kernel
theorem dL_hangs_266 : decode cL_hangs 266 = .ok (.aload_n 0, 1) := by decide +kernel
theorem dL_hangs_267 : decode cL_hangs 267 = .ok (.iload 4, 2) := by decide +kernel
theorem dL_hangs_269 : decode cL_hangs 269 = .ok (.iconst 5, 1) := by decide +kernel
theorem dL_hangs_270 : decode cL_hangs 270 = .ok (.invokevirtual 60, 3) := by decide +kernel
theorem dL_hangs_273 : decode cL_hangs 273 = .ok (.iadd, 1) := by decide +kernel
theorem dL_hangs_274 : decode cL_hangs 274 = .ok (.istore_n 3, 1) := by decide +kernel
theorem dL_hangs_275 : decode cL_hangs 275 = .ok (.iload 6, 2) := by decide +kernel
theorem dL_hangs_277 : decode cL_hangs 277 = .ok (.iload 7, 2) := by decide +kernel
theorem dL_hangs_279 : decode cL_hangs 279 = .ok (.if_icmp .ne 118, 3) := by decide +kernel
theorem dL_hangs_282 : decode cL_hangs 282 = .ok (.iload 5, 2) := by decide +kernel
theorem dL_hangs_284 : decode cL_hangs 284 = .ok (.ifCond .ge 7, 3) := by decide +kernel
theorem dL_hangs_287 : decode cL_hangs 287 = .ok (.iconst 1, 1) := by decide +kernel
theorem dL_hangs_288 : decode cL_hangs 288 = .ok (.goto 4, 3) := by decide +kernel
theorem dL_hangs_291 : decode cL_hangs 291 = .ok (.iconst 0, 1) := by decide +kernel
theorem dL_hangs_292 : decode cL_hangs 292 = .ok (.aload_n 0, 1) := by decide +kernel
theorem dL_hangs_293 : decode cL_hangs 293 = .ok (.iload 4, 2) := by decide +kernel
theorem dL_hangs_295 : decode cL_hangs 295 = .ok (.iconst 2, 1) := by decide +kernel
theorem dL_hangs_296 : decode cL_hangs 296 = .ok (.invokevirtual 60, 3) := by decide +kernel
theorem dL_hangs_299 : decode cL_hangs 299 = .ok (.ifCond .ne 7, 3) := by decide +kernel
theorem dL_hangs_302 : decode cL_hangs 302 = .ok (.iconst 1, 1) := by decide +kernel
theorem dL_hangs_303 : decode cL_hangs 303 = .ok (.goto 4, 3) := by decide +kernel
theorem dL_hangs_306 : decode cL_hangs 306 = .ok (.iconst 0, 1) := by decide +kernel
theorem dL_hangs_307 : decode cL_hangs 307 = .ok (.if_icmp .ne 90, 3) := by decide +kernel
theorem dL_hangs_310 : decode cL_hangs 310 = .ok (.iload 5, 2) := by decide +kernel
theorem dL_hangs_312 : decode cL_hangs 312 = .ok (.ifCond .lt 26, 3) := by decide +kernel
theorem dL_hangs_315 : decode cL_hangs 315 = .ok (.aload_n 0, 1) := by decide +kernel
theorem dL_hangs_316 : decode cL_hangs 316 = .ok (.iload 5, 2) := by decide +kernel
theorem dL_hangs_318 : decode cL_hangs 318 = .ok (.iconst 0, 1) := by decide +kernel
theorem dL_hangs_319 : decode cL_hangs 319 = .ok (.invokevirtual 51, 3) := by decide +kernel
theorem dL_hangs_322 : decode cL_hangs 322 = .ok (.iload 4, 2) := by decide +kernel
theorem dL_hangs_324 : decode cL_hangs 324 = .ok (.if_icmp .ne 73, 3) := by decide +kernel
theorem dL_hangs_327 : decode cL_hangs 327 = .ok (.aload_n 0, 1) := by decide +kernel
theorem dL_hangs_328 : decode cL_hangs 328 = .ok (.iload 5, 2) := by decide +kernel
theorem dL_hangs_330 : decode cL_hangs 330 = .ok (.bipush 6, 2) := by decide +kernel
theorem dL_hangs_332 : decode cL_hangs 332 = .ok (.invokevirtual 51, 3) := by decide +kernel
theorem dL_hangs_335 : decode cL_hangs 335 = .ok (.ifCond .ne 62, 3) := by decide +kernel
theorem dL_hangs_338 : decode cL_hangs 338 = .ok (.aload_n 0, 1) := by decide +kernel
theorem dL_hangs_339 : decode cL_hangs 339 = .ok (.iload 4, 2) := by decide +kernel
theorem dL_hangs_341 : decode cL_hangs 341 = .ok (.iconst 0, 1) := by decide +kernel
theorem dL_hangs_342 : decode cL_hangs 342 = .ok (.invokevirtual 60, 3) := by decide +kernel
theorem dL_hangs_345 : decode cL_hangs 345 = .ok (.ifCond .lt 52, 3) := by decide +kernel
theorem dL_hangs_348 : decode cL_hangs 348 = .ok (.aload_n 0, 1) := by decide +kernel
theorem dL_hangs_349 : decode cL_hangs 349 = .ok (.iload 4, 2) := by decide +kernel
theorem dL_hangs_351 : decode cL_hangs 351 = .ok (.iconst 0, 1) := by decide +kernel
theorem dL_hangs_352 : decode cL_hangs 352 = .ok (.invokevirtual 60, 3) := by decide +kernel
theorem dL_hangs_355 : decode cL_hangs 355 = .ok (.bipush 20, 2) := by decide +kernel
theorem dL_hangs_357 : decode cL_hangs 357 = .ok (.if_icmp .gt 40, 3) := by decide +kernel
theorem dL_hangs_360 : decode cL_hangs 360 = .ok (.aload_n 0, 1) := by decide +kernel
theorem dL_hangs_361 : decode cL_hangs 361 = .ok (.iload 4, 2) := by decide +kernel
theorem dL_hangs_363 : decode cL_hangs 363 = .ok (.invokevirtual 63, 3) := by decide +kernel
theorem dL_hangs_366 : decode cL_hangs 366 = .ok (.aload_n 0, 1) := by decide +kernel
theorem dL_hangs_367 : decode cL_hangs 367 = .ok (.iconst 4, 1) := by decide +kernel
theorem dL_hangs_368 : decode cL_hangs 368 = .ok (.invokevirtual 48, 3) := by decide +kernel
theorem dL_hangs_371 : decode cL_hangs 371 = .ok (.ifCond .ne 7, 3) := by decide +kernel
theorem dL_hangs_374 : decode cL_hangs 374 = .ok (.fconst 0, 1) := by decide +kernel
theorem dL_hangs_375 : decode cL_hangs 375 = .ok (.goto 18, 3) := by decide +kernel
theorem dL_hangs_378 : decode cL_hangs 378 = .ok (.aload_n 0, 1) := by decide +kernel
end
section
theorem dL_hangs_379 : decode cL_hangs 379 = .ok (.iload 4, 2) := by decide +kernel
theorem dL_hangs_381 : decode cL_hangs 381 = .ok (.iconst 5, 1) := by decide +kernel
theorem dL_hangs_382 : decode cL_hangs 382 = .ok (.invokevirtual 60, 3) := by decide +kernel
theorem dL_hangs_385 : decode cL_hangs 385 = .ok (.i2f, 1) := by decide +kernel
theorem dL_hangs_386 : decode cL_hangs 386 = .ok (.aload_n 0, 1) := by decide +kernel
theorem dL_hangs_387 : decode cL_hangs 387 = .ok (.iconst 4, 1) := by decide +kernel
theorem dL_hangs_388 : decode cL_hangs 388 = .ok (.invokevirtual 48, 3) := by decide +kernel
theorem dL_hangs_391 : decode cL_hangs 391 = .ok (.i2f, 1) := by decide +kernel
theorem dL_hangs_392 : decode cL_hangs 392 = .ok (.fdiv, 1) := by decide +kernel
theorem dL_hangs_393 : decode cL_hangs 393 = .ok (.fcmp .l, 1) := by decide +kernel
theorem dL_hangs_394 : decode cL_hangs 394 = .ok (.ifCond .eq 5, 3) := by decide +kernel
theorem dL_hangs_397 : decode cL_hangs 397 = .ok (.iconst 0, 1) := by decide +kernel
theorem dL_hangs_398 : decode cL_hangs 398 = .ok (.ireturn, 1) := by decide +kernel
theorem dL_hangs_399 : decode cL_hangs 399 = .ok (.iinc 4 1, 3) := by decide +kernel
theorem dL_hangs_402 : decode cL_hangs 402 = .ok (.goto (-299), 3) := by decide +kernel
theorem dL_hangs_405 : decode cL_hangs 405 = .ok (.aload_n 0, 1) := by decide +kernel
theorem dL_hangs_406 : decode cL_hangs 406 = .ok (.iload_n 1, 1) := by decide +kernel
theorem dL_hangs_407 : decode cL_hangs 407 = .ok (.invokevirtual 57, 3) := by decide +kernel
theorem dL_hangs_410 : decode cL_hangs 410 = .ok (.bipush (-5), 2) := by decide +kernel
theorem dL_hangs_412 : decode cL_hangs 412 = .ok (.if_icmp .ne 23, 3) := by decide +kernel
theorem dL_hangs_415 : decode cL_hangs 415 = .ok (.iload_n 3, 1) := by decide +kernel
theorem dL_hangs_416 : decode cL_hangs 416 = .ok (.aload_n 0, 1) := by decide +kernel
theorem dL_hangs_417 : decode cL_hangs 417 = .ok (.iconst 4, 1) := by decide +kernel
theorem dL_hangs_418 : decode cL_hangs 418 = .ok (.invokevirtual 48, 3) := by decide +kernel
theorem dL_hangs_421 : decode cL_hangs 421 = .ok (.if_icmp .ne 14, 3) := by decide +kernel
theorem dL_hangs_424 : decode cL_hangs 424 = .ok (.aload_n 0, 1) := by decide +kernel
theorem dL_hangs_425 : decode cL_hangs 425 = .ok (.invokestatic 67, 3) := by decide +kernel
theorem dL_hangs_428 : decode cL_hangs 428 = .ok (.ifCond .eq 7, 3) := by decide +kernel
theorem dL_hangs_431 : decode cL_hangs 431 = .ok (.iconst 1, 1) := by decide +kernel
theorem dL_hangs_432 : decode cL_hangs 432 = .ok (.goto 4, 3) := by decide +kernel
theorem dL_hangs_435 : decode cL_hangs 435 = .ok (.iconst 0, 1) := by decide +kernel
theorem dL_hangs_436 : decode cL_hangs 436 = .ok (.ireturn, 1) := by decide +kernel
set_option maxRecDepth 20000 in
theorem ggL_print_X5_count : GoodIn wsL_print wsX5_count := goodIn_r _ [7, 8, 9, 10, 11, 12, 13, 14, 15, 16, 17, 18, 19, 20, 21, 22, 23, 24, 25, 26, 27, 28, 29, 30, 31, 32, 33, 34, 35, 36, 37, 38, 39, 40, 41, 42, 43, 44, 45, 46, 47, 48, 49, 50, 84, 85, 86, 87, 88, 89, 90, 91, 92, 93, 94, 95, 96, 97, 98, 99, 100, 101, 102, 103, 104, 105, 106, 107, 108, 109, 110, 111, 112, 113] (by decide +kernel) (by decide +kernel)
set_option maxRecDepth 20000 in
theorem gL_print_X5_count : GoodIn wsL_print (wsV RL 48 RX5 yX5_count wsX5_count) := goodIn_app (goodIn_of _ (by decide +kernel)) ggL_print_X5_count
set_option maxRecDepth 20000 in
theorem ggL_print_X5_conker : GoodIn wsL_print wsX5_conker := goodIn_r _ [54, 8, 55, 56, 57, 58, 59, 60, 61, 62, 63, 64, 65, 19, 66, 21, 67, 6, 68, 69, 38, 39, 40, 41, 84, 85, 86, 87, 88, 89, 90, 91, 92, 93, 94, 95, 96, 97, 98, 99, 100, 101, 102, 103, 104] (by decide +kernel) (by decide +kernel)
set_option maxRecDepth 20000 in
theorem gL_print_X5_conker : GoodIn wsL_print (wsV RL 51 RX5 yX5_conker wsX5_conker) := goodIn_app (goodIn_of _ (by decide +kernel)) ggL_print_X5_conker
set_option maxRecDepth 20000 in
theorem ggL_print_X5_player : GoodIn wsL_print wsX5_player := goodIn_r _ [73, 8, 74, 75, 76, 77, 6, 78, 79, 67, 68, 16, 17, 18, 19, 20, 21, 22, 23, 24, 25, 26, 27, 28, 29, 30, 31, 32, 80, 81, 82, 83, 84, 85, 86, 87, 88, 89, 90, 91, 92, 93, 94, 95, 96, 97, 98, 99, 100, 101, 102, 103, 104] (by decide +kernel) (by decide +kernel)
set_option maxRecDepth 20000 in
theorem gL_print_X5_player : GoodIn wsL_print (wsV RL 60 RX5 yX5_player wsX5_player) := goodIn_app (goodIn_of _ (by decide +kernel)) ggL_print_X5_player
theorem dL_print_0 : decode cL_print 0 = .ok (.ldc2_w 71, 3) := by decide +kernel
theorem dL_print_3 : decode cL_print 3 = .ok (.lstore_n 1, 1) := by decide +kernel
theorem dL_print_4 : decode cL_print 4 = .ok (.iconst 0, 1) := by decide +kernel
theorem dL_print_5 : decode cL_print 5 = .ok (.istore_n 3, 1) := by decide +kernel
theorem dL_print_6 : decode cL_print 6 = .ok (.iload_n 3, 1) := by decide +kernel
theorem dL_print_7 : decode cL_print 7 = .ok (.bipush 10, 2) := by decide +kernel
theorem dL_print_9 : decode cL_print 9 = .ok (.if_icmp .ge 22, 3) := by decide +kernel
theorem dL_print_12 : decode cL_print 12 = .ok (.ldc2_w 73, 3) := by decide +kernel
theorem dL_print_15 : decode cL_print 15 = .ok (.lload_n 1, 1) := by decide +kernel
theorem dL_print_16 : decode cL_print 16 = .ok (.lmul, 1) := by decide +kernel
theorem dL_print_17 : decode cL_print 17 = .ok (.aload_n 0, 1) := by decide +kernel
theorem dL_print_18 : decode cL_print 18 = .ok (.iload_n 3, 1) := by decide +kernel
theorem dL_print_19 : decode cL_print 19 = .ok (.invokevirtual 48, 3) := by decide +kernel
theorem dL_print_22 : decode cL_print 22 = .ok (.i2l, 1) := by decide +kernel
theorem dL_print_23 : decode cL_print 23 = .ok (.ladd, 1) := by decide +kernel
theorem dL_print_24 : decode cL_print 24 = .ok (.lstore_n 1, 1) := by decide +kernel
theorem dL_print_25 : decode cL_print 25 = .ok (.iinc 3 1, 3) := by decide +kernel
theorem dL_print_28 : decode cL_print 28 = .ok (.goto (-22), 3) := by decide +kernel
theorem dL_print_31 : decode cL_print 31 = .ok (.iconst 0, 1) := by decide +kernel
theorem dL_print_32 : decode cL_print 32 = .ok (.istore_n 3, 1) := by decide +kernel
theorem dL_print_33 : decode cL_print 33 = .ok (.iload_n 3, 1) := by decide +kernel
theorem dL_print_34 : decode cL_print 34 = .ok (.bipush 9, 2) := by decide +kernel
theorem dL_print_36 : decode cL_print 36 = .ok (.aload_n 0, 1) := by decide +kernel
theorem dL_print_37 : decode cL_print 37 = .ok (.iconst 0, 1) := by decide +kernel
theorem dL_print_38 : decode cL_print 38 = .ok (.invokevirtual 48, 3) := by decide +kernel
theorem dL_print_41 : decode cL_print 41 = .ok (.imul, 1) := by decide +kernel
theorem dL_print_42 : decode cL_print 42 = .ok (.if_icmp .ge 29, 3) := by decide +kernel
theorem dL_print_45 : decode cL_print 45 = .ok (.ldc2_w 73, 3) := by decide +kernel
theorem dL_print_48 : decode cL_print 48 = .ok (.lload_n 1, 1) := by decide +kernel
theorem dL_print_49 : decode cL_print 49 = .ok (.lmul, 1) := by decide +kernel
theorem dL_print_50 : decode cL_print 50 = .ok (.aload_n 0, 1) := by decide +kernel
theorem dL_print_51 : decode cL_print 51 = .ok (.iload_n 3, 1) := by decide +kernel
theorem dL_print_52 : decode cL_print 52 = .ok (.bipush 9, 2) := by decide +kernel
theorem dL_print_54 : decode cL_print 54 = .ok (.idiv, 1) := by decide +kernel
theorem dL_print_55 : decode cL_print 55 = .ok (.iload_n 3, 1) := by decide +kernel
theorem dL_print_56 : decode cL_print 56 = .ok (.bipush 9, 2) := by decide +kernel
theorem dL_print_58 : decode cL_print 58 = .ok (.irem, 1) := by decide +kernel
theorem dL_print_59 : decode cL_print 59 = .ok (.invokevirtual 51, 3) := by decide +kernel
theorem dL_print_62 : decode cL_print 62 = .ok (.i2l, 1) := by decide +kernel
theorem dL_print_63 : decode cL_print 63 = .ok (.ladd, 1) := by decide +kernel
theorem dL_print_64 : decode cL_print 64 = .ok (.lstore_n 1, 1) := by decide +kernel
theorem dL_print_65 : decode cL_print 65 = .ok (.iinc 3 1, 3) := by decide +kernel
theorem dL_print_68 : decode cL_print 68 = .ok (.goto (-35), 3) := by decide +kernel
theorem dL_print_71 : decode cL_print 71 = .ok (.iconst 0, 1) := by decide +kernel
theorem dL_print_72 : decode cL_print 72 = .ok (.istore_n 3, 1) := by decide +kernel
theorem dL_print_73 : decode cL_print 73 = .ok (.iload_n 3, 1) := by decide +kernel
theorem dL_print_74 : decode cL_print 74 = .ok (.bipush 12, 2) := by decide +kernel
theorem dL_print_76 : decode cL_print 76 = .ok (.if_icmp .ge 27, 3) := by decide +kernel
theorem dL_print_79 : decode cL_print 79 = .ok (.ldc2_w 73, 3) := by decide +kernel
theorem dL_print_82 : decode cL_print 82 = .ok (.lload_n 1, 1) := by decide +kernel
theorem dL_print_83 : decode cL_print 83 = .ok (.lmul, 1) := by decide +kernel
theorem dL_print_84 : decode cL_print 84 = .ok (.aload_n 0, 1) := by decide +kernel
theorem dL_print_85 : decode cL_print 85 = .ok (.iload_n 3, 1) := by decide +kernel
theorem dL_print_86 : decode cL_print 86 = .ok (.iconst 2, 1) := by decide +kernel
theorem dL_print_87 : decode cL_print 87 = .ok (.idiv, 1) := by decide +kernel
theorem dL_print_88 : decode cL_print 88 = .ok (.iload_n 3, 1) := by decide +kernel
theorem dL_print_89 : decode cL_print 89 = .ok (.iconst 2, 1) := by decide +kernel
theorem dL_print_90 : decode cL_print 90 = .ok (.irem, 1) := by decide +kernel
theorem dL_print_91 : decode cL_print 91 = .ok (.invokevirtual 60, 3) := by decide +kernel
theorem dL_print_94 : decode cL_print 94 = .ok (.i2l, 1) := by decide +kernel
theorem dL_print_95 : decode cL_print 95 = .ok (.ladd, 1) := by decide +kernel
theorem dL_print_96 : decode cL_print 96 = .ok (.lstore_n 1, 1) := by decide +kernel
theorem dL_print_97 : decode cL_print 97 = .ok (.iinc 3 1, 3) := by decide +kernel
theorem dL_print_100 : decode cL_print 100 = .ok (.goto (-27), 3) := by decide +kernel
theorem dL_print_103 : decode cL_print 103 = .ok (.lload_n 1, 1) := by decide +kernel
theorem dL_print_104 : decode cL_print 104 = .ok (.lreturn, 1) := by decide +kernel
set_option maxRecDepth 20000 in
theorem ggL_strikes_X5_ifStruck : GoodIn wsL_strikes wsX5_ifStruck := goodIn_r _ [5, 6, 7, 8, 9, 10, 11, 12, 4, 13, 14, 15, 16, 17, 18, 19, 20, 21, 22, 23, 24, 25, 26, 27, 28, 29, 30, 31, 32, 33, 34, 35, 36, 37, 38, 39, 40, 41, 42, 43, 44, 45, 46, 47, 48, 49, 50, 51, 52, 53, 54, 55, 56, 57, 58, 59, 60, 61, 62, 63, 64, 65, 66, 67, 68, 69, 70, 71, 72, 73, 74, 75, 76, 77, 78, 79, 80, 81, 82, 83, 84, 85, 86, 204, 205, 206, 207, 208, 209, 210, 211, 212, 213, 214, 215, 216, 217, 218, 219, 220, 221, 222, 223, 224] (by decide +kernel) (by decide +kernel)
set_option maxRecDepth 20000 in
theorem gL_strikes_X5_ifStruck : GoodIn wsL_strikes (wsV RL 75 RX5 yX5_ifStruck wsX5_ifStruck) := goodIn_app (goodIn_of _ (by decide +kernel)) ggL_strikes_X5_ifStruck
set_option maxRecDepth 20000 in
theorem ggL_strikes_X5_leastSwing : GoodIn wsL_strikes wsX5_leastSwing := goodIn_r _ [90, 6, 7, 8, 9, 10, 11, 12, 4, 13, 14, 15, 16, 17, 18, 19, 20, 21, 22, 23, 24, 25, 26, 27, 28, 29, 30, 31, 32, 33, 34, 35, 36, 37, 38, 39, 40, 41, 42, 43, 44, 45, 46, 47, 48, 49, 50, 51, 52, 53, 54, 55, 56, 57, 58, 59, 60, 61, 62, 63, 64, 65, 66, 67, 68, 69, 70, 71, 72, 73, 74, 75, 76, 77, 78, 79, 80, 81, 82, 83, 84, 85, 86, 204, 205, 206, 207, 208, 209, 210, 211, 212, 213, 214, 215, 216, 217, 218, 219, 220, 221, 222, 223, 224] (by decide +kernel) (by decide +kernel)
set_option maxRecDepth 20000 in
theorem gL_strikes_X5_leastSwing : GoodIn wsL_strikes (wsV RL 78 RX5 yX5_leastSwing wsX5_leastSwing) := goodIn_app (goodIn_of _ (by decide +kernel)) ggL_strikes_X5_leastSwing
set_option maxRecDepth 20000 in
theorem ggL_strikes_L_print : GoodIn wsL_strikes wsL_print := goodIn_r _ [94, 95, 96, 97, 98, 99, 4, 100, 6, 101, 102, 103, 104, 105, 106, 107, 108, 109, 110, 10, 111, 23, 28, 112, 113, 114, 115, 18, 116, 117, 118, 119, 47, 120, 121, 122, 123, 124, 125, 126, 127, 49, 128, 129, 130, 131, 48, 132, 133, 134, 135, 136, 137, 138, 139, 140, 141, 142, 143, 144, 145, 146, 147, 148, 20, 21, 22, 12, 13, 149, 150, 151, 152, 153, 154, 155, 156, 157, 158, 159, 160, 161, 162, 163, 204, 205, 206, 207, 208, 209, 210, 211, 212, 213, 214, 215, 216, 217, 218, 219, 220, 221, 222, 223, 224, 225, 226, 227, 228, 229, 230, 231, 232, 233] (by decide +kernel) (by decide +kernel)
set_option maxRecDepth 20000 in
theorem gL_strikes_L_print : GoodIn wsL_strikes (va_wsS RL 81 yL_print wsL_print) := goodIn_app (goodIn_of _ (by decide +kernel)) ggL_strikes_L_print
set_option maxRecDepth 20000 in
theorem ggL_strikes_X5_count : GoodIn wsL_strikes wsX5_count := goodIn_r _ [100, 6, 101, 102, 103, 104, 105, 106, 107, 108, 109, 110, 10, 111, 23, 28, 112, 113, 114, 115, 18, 116, 117, 118, 119, 47, 120, 121, 122, 123, 124, 125, 126, 127, 49, 128, 129, 130, 131, 48, 132, 133, 134, 135, 204, 205, 206, 207, 208, 209, 210, 211, 212, 213, 214, 215, 216, 217, 218, 219, 220, 221, 222, 223, 224, 225, 226, 227, 228, 229, 230, 231, 232, 233] (by decide +kernel) (by decide +kernel)
set_option maxRecDepth 20000 in
theorem gL_strikes_X5_count : GoodIn wsL_strikes (wsV RL 48 RX5 yX5_count wsX5_count) := goodIn_app (goodIn_of _ (by decide +kernel)) ggL_strikes_X5_count
set_option maxRecDepth 20000 in
theorem ggL_strikes_X5_strike : GoodIn wsL_strikes wsX5_strike := goodIn_r _ [167, 6, 104, 7, 8, 9, 10, 11, 12, 4, 13, 14, 15, 16, 17, 18, 19, 20, 21, 22, 23, 24, 25, 26, 27, 28, 168, 169, 170, 171, 172, 173, 174, 175, 176, 177, 178, 179, 35, 36, 37, 38, 39, 40, 41, 42, 43, 44, 45, 46, 47, 48, 49, 50, 51, 52, 53, 54, 55, 56, 57, 58, 59, 60, 61, 62, 63, 64, 65, 66, 67, 68, 69, 70, 71, 72, 73, 74, 75, 76, 77, 78, 79, 80, 81, 82, 83, 84, 85, 86, 204, 205, 206, 207, 208, 209, 210, 211, 212, 213, 214, 215, 216, 217, 218, 219, 220, 221, 222, 223, 224, 225, 226] (by decide +kernel) (by decide +kernel)
set_option maxRecDepth 20000 in
theorem gL_strikes_X5_strike : GoodIn wsL_strikes (wsV RL 45 RX5 yX5_strike wsX5_strike) := goodIn_app (goodIn_of _ (by decide +kernel)) ggL_strikes_X5_strike
set_option maxRecDepth 20000 in
theorem ggL_strikes_X5_conker : GoodIn wsL_strikes wsX5_conker := goodIn_r _ [139, 6, 140, 141, 142, 143, 144, 145, 146, 147, 148, 20, 21, 10, 22, 23, 12, 4, 13, 149, 125, 126, 127, 49, 204, 205, 206, 207, 208, 209, 210, 211, 212, 213, 214, 215, 216, 217, 218, 219, 220, 221, 222, 223, 224] (by decide +kernel) (by decide +kernel)
set_option maxRecDepth 20000 in
theorem gL_strikes_X5_conker : GoodIn wsL_strikes (wsV RL 51 RX5 yX5_conker wsX5_conker) := goodIn_app (goodIn_of _ (by decide +kernel)) ggL_strikes_X5_conker
set_option maxRecDepth 20000 in
theorem ggL_strikes_L_conkers : GoodIn wsL_strikes wsL_conkers := goodIn_r _ [182, 183, 97, 98, 99, 4, 100, 6, 101, 102, 103, 104, 105, 106, 107, 108, 109, 110, 10, 111, 23, 28, 112, 113, 114, 115, 18, 116, 117, 118, 119, 47, 120, 121, 122, 123, 124, 125, 126, 127, 49, 128, 129, 130, 131, 48, 132, 133, 134, 135, 136, 137, 138, 139, 140, 141, 142, 143, 144, 145, 146, 147, 148, 20, 21, 22, 12, 13, 149, 184, 185, 186, 187, 188, 189, 190, 191, 192, 193, 194, 195, 19, 204, 205, 206, 207, 208, 209, 210, 211, 212, 213, 214, 215, 216, 217, 218, 219, 220, 221, 222, 223, 224, 225, 226, 227, 228, 229, 230, 231, 232, 233] (by decide +kernel) (by decide +kernel)
set_option maxRecDepth 20000 in
theorem gL_strikes_L_conkers : GoodIn wsL_strikes (va_wsS RL 67 yL_conkers wsL_conkers) := goodIn_app (goodIn_of _ (by decide +kernel)) ggL_strikes_L_conkers
set_option maxRecDepth 20000 in
theorem ggL_strikes_X5_undo : GoodIn wsL_strikes wsX5_undo := goodIn_r _ [199, 104, 6, 200, 201, 202, 171, 203, 173, 174, 179, 35, 36, 10, 37, 38, 39, 40, 41, 42, 43, 18, 44, 45, 46, 47, 48, 28, 49, 23, 50, 51, 204, 205, 206, 207, 208, 209, 210, 211, 225, 226, 212, 213, 214, 215, 216, 217, 218, 219, 220, 221, 222, 223, 224] (by decide +kernel) (by decide +kernel)
set_option maxRecDepth 20000 in
theorem gL_strikes_X5_undo : GoodIn wsL_strikes (wsV RL 85 RX5 yX5_undo wsX5_undo) := goodIn_app (goodIn_of _ (by decide +kernel)) ggL_strikes_X5_undo
theorem dL_strikes_0 : decode cL_strikes 0 = .ok (.aload_n 0, 1) := by decide +kernel
theorem dL_strikes_1 : decode cL_strikes 1 = .ok (.iload_n 1, 1) := by decide +kernel
theorem dL_strikes_2 : decode cL_strikes 2 = .ok (.iload_n 2, 1) := by decide +kernel
theorem dL_strikes_3 : decode cL_strikes 3 = .ok (.iload_n 3, 1) := by decide +kernel
theorem dL_strikes_4 : decode cL_strikes 4 = .ok (.invokevirtual 75, 3) := by decide +kernel
theorem dL_strikes_7 : decode cL_strikes 7 = .ok (.istore 4, 2) := by decide +kernel
theorem dL_strikes_9 : decode cL_strikes 9 = .ok (.aload_n 0, 1) := by decide +kernel
theorem dL_strikes_10 : decode cL_strikes 10 = .ok (.iload_n 1, 1) := by decide +kernel
theorem dL_strikes_11 : decode cL_strikes 11 = .ok (.iload_n 2, 1) := by decide +kernel
theorem dL_strikes_12 : decode cL_strikes 12 = .ok (.invokevirtual 78, 3) := by decide +kernel
theorem dL_strikes_15 : decode cL_strikes 15 = .ok (.istore 5, 2) := by decide +kernel
theorem dL_strikes_17 : decode cL_strikes 17 = .ok (.aload_n 0, 1) := by decide +kernel
theorem dL_strikes_18 : decode cL_strikes 18 = .ok (.invokestatic 81, 3) := by decide +kernel
theorem dL_strikes_21 : decode cL_strikes 21 = .ok (.lstore 6, 2) := by decide +kernel
theorem dL_strikes_23 : decode cL_strikes 23 = .ok (.aload_n 0, 1) := by decide +kernel
theorem dL_strikes_24 : decode cL_strikes 24 = .ok (.bipush 6, 2) := by decide +kernel
theorem dL_strikes_26 : decode cL_strikes 26 = .ok (.invokevirtual 48, 3) := by decide +kernel
theorem dL_strikes_29 : decode cL_strikes 29 = .ok (.istore 8, 2) := by decide +kernel
theorem dL_strikes_31 : decode cL_strikes 31 = .ok (.aload_n 0, 1) := by decide +kernel
theorem dL_strikes_32 : decode cL_strikes 32 = .ok (.iconst 4, 1) := by decide +kernel
theorem dL_strikes_33 : decode cL_strikes 33 = .ok (.invokevirtual 48, 3) := by decide +kernel
theorem dL_strikes_36 : decode cL_strikes 36 = .ok (.istore 9, 2) := by decide +kernel
theorem dL_strikes_38 : decode cL_strikes 38 = .ok (.aload_n 0, 1) := by decide +kernel
theorem dL_strikes_39 : decode cL_strikes 39 = .ok (.iload_n 1, 1) := by decide +kernel
theorem dL_strikes_40 : decode cL_strikes 40 = .ok (.iload_n 2, 1) := by decide +kernel
theorem dL_strikes_41 : decode cL_strikes 41 = .ok (.iload_n 3, 1) := by decide +kernel
theorem dL_strikes_42 : decode cL_strikes 42 = .ok (.invokevirtual 45, 3) := by decide +kernel
theorem dL_strikes_45 : decode cL_strikes 45 = .ok (.istore 10, 2) := by decide +kernel
theorem dL_strikes_47 : decode cL_strikes 47 = .ok (.iload 10, 2) := by decide +kernel
theorem dL_strikes_49 : decode cL_strikes 49 = .ok (.ifCond .ge 33, 3) := by decide +kernel
theorem dL_strikes_52 : decode cL_strikes 52 = .ok (.iload 10, 2) := by decide +kernel
theorem dL_strikes_54 : decode cL_strikes 54 = .ok (.iload 4, 2) := by decide +kernel
theorem dL_strikes_56 : decode cL_strikes 56 = .ok (.if_icmp .ne 24, 3) := by decide +kernel
theorem dL_strikes_59 : decode cL_strikes 59 = .ok (.iload 5, 2) := by decide +kernel
theorem dL_strikes_61 : decode cL_strikes 61 = .ok (.iload 10, 2) := by decide +kernel
theorem dL_strikes_63 : decode cL_strikes 63 = .ok (.if_icmp .ne 17, 3) := by decide +kernel
theorem dL_strikes_66 : decode cL_strikes 66 = .ok (.aload_n 0, 1) := by decide +kernel
theorem dL_strikes_67 : decode cL_strikes 67 = .ok (.invokestatic 81, 3) := by decide +kernel
theorem dL_strikes_70 : decode cL_strikes 70 = .ok (.lload 6, 2) := by decide +kernel
theorem dL_strikes_72 : decode cL_strikes 72 = .ok (.lcmp, 1) := by decide +kernel
theorem dL_strikes_73 : decode cL_strikes 73 = .ok (.ifCond .ne 7, 3) := by decide +kernel
theorem dL_strikes_76 : decode cL_strikes 76 = .ok (.iconst 1, 1) := by decide +kernel
theorem dL_strikes_77 : decode cL_strikes 77 = .ok (.goto 4, 3) := by decide +kernel
theorem dL_strikes_80 : decode cL_strikes 80 = .ok (.iconst 0, 1) := by decide +kernel
theorem dL_strikes_81 : decode cL_strikes 81 = .ok (.ireturn, 1) := by decide +kernel
theorem dL_strikes_82 : decode cL_strikes 82 = .ok (.iload 10, 2) := by decide +kernel
theorem dL_strikes_84 : decode cL_strikes 84 = .ok (.iload 4, 2) := by decide +kernel
theorem dL_strikes_86 : decode cL_strikes 86 = .ok (.if_icmp .ne 153, 3) := by decide +kernel
theorem dL_strikes_89 : decode cL_strikes 89 = .ok (.aload_n 0, 1) := by decide +kernel
theorem dL_strikes_90 : decode cL_strikes 90 = .ok (.bipush 6, 2) := by decide +kernel
theorem dL_strikes_92 : decode cL_strikes 92 = .ok (.invokevirtual 48, 3) := by decide +kernel
theorem dL_strikes_95 : decode cL_strikes 95 = .ok (.iload 8, 2) := by decide +kernel
theorem dL_strikes_97 : decode cL_strikes 97 = .ok (.iconst 1, 1) := by decide +kernel
theorem dL_strikes_98 : decode cL_strikes 98 = .ok (.iadd, 1) := by decide +kernel
theorem dL_strikes_99 : decode cL_strikes 99 = .ok (.if_icmp .ne 140, 3) := by decide +kernel
theorem dL_strikes_102 : decode cL_strikes 102 = .ok (.aload_n 0, 1) := by decide +kernel
theorem dL_strikes_103 : decode cL_strikes 103 = .ok (.iload_n 1, 1) := by decide +kernel
theorem dL_strikes_104 : decode cL_strikes 104 = .ok (.bipush 6, 2) := by decide +kernel
theorem dL_strikes_106 : decode cL_strikes 106 = .ok (.invokevirtual 51, 3) := by decide +kernel
theorem dL_strikes_109 : decode cL_strikes 109 = .ok (.iconst 2, 1) := by decide +kernel
theorem dL_strikes_110 : decode cL_strikes 110 = .ok (.if_icmp .ne 7, 3) := by decide +kernel
theorem dL_strikes_113 : decode cL_strikes 113 = .ok (.iconst 1, 1) := by decide +kernel
theorem dL_strikes_114 : decode cL_strikes 114 = .ok (.goto 4, 3) := by decide +kernel
theorem dL_strikes_117 : decode cL_strikes 117 = .ok (.iconst 0, 1) := by decide +kernel
theorem dL_strikes_118 : decode cL_strikes 118 = .ok (.iload 10, 2) := by decide +kernel
theorem dL_strikes_120 : decode cL_strikes 120 = .ok (.iconst 2, 1) := by decide +kernel
theorem dL_strikes_121 : decode cL_strikes 121 = .ok (.irem, 1) := by decide +kernel
theorem dL_strikes_122 : decode cL_strikes 122 = .ok (.iconst 1, 1) := by decide +kernel
theorem dL_strikes_123 : decode cL_strikes 123 = .ok (.if_icmp .ne 7, 3) := by decide +kernel
theorem dL_strikes_126 : decode cL_strikes 126 = .ok (.iconst 1, 1) := by decide +kernel
theorem dL_strikes_127 : decode cL_strikes 127 = .ok (.goto 4, 3) := by decide +kernel
theorem dL_strikes_130 : decode cL_strikes 130 = .ok (.iconst 0, 1) := by decide +kernel
theorem dL_strikes_131 : decode cL_strikes 131 = .ok (.if_icmp .ne 108, 3) := by decide +kernel
theorem dL_strikes_134 : decode cL_strikes 134 = .ok (.aload_n 0, 1) := by decide +kernel
theorem dL_strikes_135 : decode cL_strikes 135 = .ok (.iload_n 2, 1) := by decide +kernel
theorem dL_strikes_136 : decode cL_strikes 136 = .ok (.bipush 6, 2) := by decide +kernel
theorem dL_strikes_138 : decode cL_strikes 138 = .ok (.invokevirtual 51, 3) := by decide +kernel
theorem dL_strikes_141 : decode cL_strikes 141 = .ok (.iconst 2, 1) := by decide +kernel
theorem dL_strikes_142 : decode cL_strikes 142 = .ok (.if_icmp .ne 7, 3) := by decide +kernel
theorem dL_strikes_145 : decode cL_strikes 145 = .ok (.iconst 1, 1) := by decide +kernel
theorem dL_strikes_146 : decode cL_strikes 146 = .ok (.goto 4, 3) := by decide +kernel
theorem dL_strikes_149 : decode cL_strikes 149 = .ok (.iconst 0, 1) := by decide +kernel
theorem dL_strikes_150 : decode cL_strikes 150 = .ok (.iload 10, 2) := by decide +kernel
theorem dL_strikes_152 : decode cL_strikes 152 = .ok (.iconst 2, 1) := by decide +kernel
theorem dL_strikes_153 : decode cL_strikes 153 = .ok (.idiv, 1) := by decide +kernel
theorem dL_strikes_154 : decode cL_strikes 154 = .ok (.iconst 2, 1) := by decide +kernel
theorem dL_strikes_155 : decode cL_strikes 155 = .ok (.irem, 1) := by decide +kernel
theorem dL_strikes_156 : decode cL_strikes 156 = .ok (.iconst 1, 1) := by decide +kernel
theorem dL_strikes_157 : decode cL_strikes 157 = .ok (.if_icmp .ne 7, 3) := by decide +kernel
theorem dL_strikes_160 : decode cL_strikes 160 = .ok (.iconst 1, 1) := by decide +kernel
theorem dL_strikes_161 : decode cL_strikes 161 = .ok (.goto 4, 3) := by decide +kernel
theorem dL_strikes_164 : decode cL_strikes 164 = .ok (.iconst 0, 1) := by decide +kernel
theorem dL_strikes_165 : decode cL_strikes 165 = .ok (.if_icmp .ne 74, 3) := by decide +kernel
theorem dL_strikes_168 : decode cL_strikes 168 = .ok (.aload_n 0, 1) := by decide +kernel
theorem dL_strikes_169 : decode cL_strikes 169 = .ok (.iload_n 1, 1) := by decide +kernel
theorem dL_strikes_170 : decode cL_strikes 170 = .ok (.bipush 6, 2) := by decide +kernel
theorem dL_strikes_172 : decode cL_strikes 172 = .ok (.invokevirtual 51, 3) := by decide +kernel
theorem dL_strikes_175 : decode cL_strikes 175 = .ok (.iconst 1, 1) := by decide +kernel
theorem dL_strikes_176 : decode cL_strikes 176 = .ok (.if_icmp .ne 7, 3) := by decide +kernel
theorem dL_strikes_179 : decode cL_strikes 179 = .ok (.iconst 1, 1) := by decide +kernel
theorem dL_strikes_180 : decode cL_strikes 180 = .ok (.goto 4, 3) := by decide +kernel
theorem dL_strikes_183 : decode cL_strikes 183 = .ok (.iconst 0, 1) := by decide +kernel
theorem dL_strikes_184 : decode cL_strikes 184 = .ok (.iload 10, 2) := by decide +kernel
theorem dL_strikes_186 : decode cL_strikes 186 = .ok (.iconst 4, 1) := by decide +kernel
theorem dL_strikes_187 : decode cL_strikes 187 = .ok (.idiv, 1) := by decide +kernel
theorem dL_strikes_188 : decode cL_strikes 188 = .ok (.iconst 2, 1) := by decide +kernel
theorem dL_strikes_189 : decode cL_strikes 189 = .ok (.irem, 1) := by decide +kernel
theorem dL_strikes_190 : decode cL_strikes 190 = .ok (.iconst 1, 1) := by decide +kernel
theorem dL_strikes_191 : decode cL_strikes 191 = .ok (.if_icmp .ne 7, 3) := by decide +kernel
theorem dL_strikes_194 : decode cL_strikes 194 = .ok (.iconst 1, 1) := by decide +kernel
theorem dL_strikes_195 : decode cL_strikes 195 = .ok (.goto 4, 3) := by decide +kernel
theorem dL_strikes_198 : decode cL_strikes 198 = .ok (.iconst 0, 1) := by decide +kernel
theorem dL_strikes_199 : decode cL_strikes 199 = .ok (.if_icmp .ne 40, 3) := by decide +kernel
theorem dL_strikes_202 : decode cL_strikes 202 = .ok (.aload_n 0, 1) := by decide +kernel
theorem dL_strikes_203 : decode cL_strikes 203 = .ok (.iload_n 2, 1) := by decide +kernel
theorem dL_strikes_204 : decode cL_strikes 204 = .ok (.bipush 6, 2) := by decide +kernel
theorem dL_strikes_206 : decode cL_strikes 206 = .ok (.invokevirtual 51, 3) := by decide +kernel
theorem dL_strikes_209 : decode cL_strikes 209 = .ok (.iconst 1, 1) := by decide +kernel
theorem dL_strikes_210 : decode cL_strikes 210 = .ok (.if_icmp .ne 7, 3) := by decide +kernel
theorem dL_strikes_213 : decode cL_strikes 213 = .ok (.iconst 1, 1) := by decide +kernel
theorem dL_strikes_214 : decode cL_strikes 214 = .ok (.goto 4, 3) := by decide +kernel
theorem dL_strikes_217 : decode cL_strikes 217 = .ok (.iconst 0, 1) := by decide +kernel
theorem dL_strikes_218 : decode cL_strikes 218 = .ok (.iload 10, 2) := by decide +kernel
theorem dL_strikes_220 : decode cL_strikes 220 = .ok (.bipush 8, 2) := by decide +kernel
theorem dL_strikes_222 : decode cL_strikes 222 = .ok (.idiv, 1) := by decide +kernel
theorem dL_strikes_223 : decode cL_strikes 223 = .ok (.iconst 1, 1) := by decide +kernel
theorem dL_strikes_224 : decode cL_strikes 224 = .ok (.if_icmp .ne 7, 3) := by decide +kernel
theorem dL_strikes_227 : decode cL_strikes 227 = .ok (.iconst 1, 1) := by decide +kernel
theorem dL_strikes_228 : decode cL_strikes 228 = .ok (.goto 4, 3) := by decide +kernel
theorem dL_strikes_231 : decode cL_strikes 231 = .ok (.iconst 0, 1) := by decide +kernel
theorem dL_strikes_232 : decode cL_strikes 232 = .ok (.if_icmp .ne 7, 3) := by decide +kernel
theorem dL_strikes_235 : decode cL_strikes 235 = .ok (.iconst 1, 1) := by decide +kernel
theorem dL_strikes_236 : decode cL_strikes 236 = .ok (.goto 4, 3) := by decide +kernel
theorem dL_strikes_239 : decode cL_strikes 239 = .ok (.iconst 0, 1) := by decide +kernel
theorem dL_strikes_240 : decode cL_strikes 240 = .ok (.istore 11, 2) := by decide +kernel
theorem dL_strikes_242 : decode cL_strikes 242 = .ok (.iload 11, 2) := by decide +kernel
theorem dL_strikes_244 : decode cL_strikes 244 = .ok (.ifCond .eq 125, 3) := by decide +kernel
theorem dL_strikes_247 : decode cL_strikes 247 = .ok (.iload 10, 2) := by decide +kernel
theorem dL_strikes_249 : decode cL_strikes 249 = .ok (.iconst 4, 1) := by decide +kernel
theorem dL_strikes_250 : decode cL_strikes 250 = .ok (.irem, 1) := by decide +kernel
theorem dL_strikes_251 : decode cL_strikes 251 = .ok (.ifCond .ne 16, 3) := by decide +kernel
theorem dL_strikes_254 : decode cL_strikes 254 = .ok (.aload_n 0, 1) := by decide +kernel
theorem dL_strikes_255 : decode cL_strikes 255 = .ok (.iconst 4, 1) := by decide +kernel
theorem dL_strikes_256 : decode cL_strikes 256 = .ok (.invokevirtual 48, 3) := by decide +kernel
theorem dL_strikes_259 : decode cL_strikes 259 = .ok (.iload 9, 2) := by decide +kernel
theorem dL_strikes_261 : decode cL_strikes 261 = .ok (.if_icmp .ne 108, 3) := by decide +kernel
theorem dL_strikes_264 : decode cL_strikes 264 = .ok (.goto 36, 3) := by decide +kernel
theorem dL_strikes_267 : decode cL_strikes 267 = .ok (.iload 10, 2) := by decide +kernel
theorem dL_strikes_269 : decode cL_strikes 269 = .ok (.iconst 4, 1) := by decide +kernel
theorem dL_strikes_270 : decode cL_strikes 270 = .ok (.irem, 1) := by decide +kernel
theorem dL_strikes_271 : decode cL_strikes 271 = .ok (.iconst 3, 1) := by decide +kernel
theorem dL_strikes_272 : decode cL_strikes 272 = .ok (.if_icmp .ne 16, 3) := by decide +kernel
theorem dL_strikes_275 : decode cL_strikes 275 = .ok (.aload_n 0, 1) := by decide +kernel
theorem dL_strikes_276 : decode cL_strikes 276 = .ok (.iconst 4, 1) := by decide +kernel
theorem dL_strikes_277 : decode cL_strikes 277 = .ok (.invokevirtual 48, 3) := by decide +kernel
theorem dL_strikes_280 : decode cL_strikes 280 = .ok (.iload 9, 2) := by decide +kernel
theorem dL_strikes_282 : decode cL_strikes 282 = .ok (.if_icmp .gt 87, 3) := by decide +kernel
theorem dL_strikes_285 : decode cL_strikes 285 = .ok (.goto 15, 3) := by decide +kernel
theorem dL_strikes_288 : decode cL_strikes 288 = .ok (.aload_n 0, 1) := by decide +kernel
theorem dL_strikes_289 : decode cL_strikes 289 = .ok (.iconst 4, 1) := by decide +kernel
theorem dL_strikes_290 : decode cL_strikes 290 = .ok (.invokevirtual 48, 3) := by decide +kernel
theorem dL_strikes_293 : decode cL_strikes 293 = .ok (.iload 9, 2) := by decide +kernel
theorem dL_strikes_295 : decode cL_strikes 295 = .ok (.iconst 1, 1) := by decide +kernel
theorem dL_strikes_296 : decode cL_strikes 296 = .ok (.iadd, 1) := by decide +kernel
theorem dL_strikes_297 : decode cL_strikes 297 = .ok (.if_icmp .ne 72, 3) := by decide +kernel
theorem dL_strikes_300 : decode cL_strikes 300 = .ok (.iload 10, 2) := by decide +kernel
theorem dL_strikes_302 : decode cL_strikes 302 = .ok (.iconst 4, 1) := by decide +kernel
theorem dL_strikes_303 : decode cL_strikes 303 = .ok (.irem, 1) := by decide +kernel
theorem dL_strikes_304 : decode cL_strikes 304 = .ok (.iconst 2, 1) := by decide +kernel
theorem dL_strikes_305 : decode cL_strikes 305 = .ok (.if_icmp .ne 15, 3) := by decide +kernel
theorem dL_strikes_308 : decode cL_strikes 308 = .ok (.iload 5, 2) := by decide +kernel
theorem dL_strikes_310 : decode cL_strikes 310 = .ok (.iconst 1, 1) := by decide +kernel
theorem dL_strikes_311 : decode cL_strikes 311 = .ok (.if_icmp .lt 58, 3) := by decide +kernel
theorem dL_strikes_314 : decode cL_strikes 314 = .ok (.iload 5, 2) := by decide +kernel
theorem dL_strikes_316 : decode cL_strikes 316 = .ok (.iload_n 3, 1) := by decide +kernel
theorem dL_strikes_317 : decode cL_strikes 317 = .ok (.if_icmp .gt 52, 3) := by decide +kernel
theorem dL_strikes_320 : decode cL_strikes 320 = .ok (.iload 10, 2) := by decide +kernel
theorem dL_strikes_322 : decode cL_strikes 322 = .ok (.iconst 4, 1) := by decide +kernel
theorem dL_strikes_323 : decode cL_strikes 323 = .ok (.irem, 1) := by decide +kernel
theorem dL_strikes_324 : decode cL_strikes 324 = .ok (.iconst 1, 1) := by decide +kernel
theorem dL_strikes_325 : decode cL_strikes 325 = .ok (.if_icmp .ne 14, 3) := by decide +kernel
theorem dL_strikes_328 : decode cL_strikes 328 = .ok (.aload_n 0, 1) := by decide +kernel
theorem dL_strikes_329 : decode cL_strikes 329 = .ok (.iload_n 1, 1) := by decide +kernel
theorem dL_strikes_330 : decode cL_strikes 330 = .ok (.bipush 7, 2) := by decide +kernel
theorem dL_strikes_332 : decode cL_strikes 332 = .ok (.invokevirtual 51, 3) := by decide +kernel
theorem dL_strikes_335 : decode cL_strikes 335 = .ok (.iload_n 2, 1) := by decide +kernel
theorem dL_strikes_336 : decode cL_strikes 336 = .ok (.if_icmp .ne 33, 3) := by decide +kernel
theorem dL_strikes_339 : decode cL_strikes 339 = .ok (.iload 10, 2) := by decide +kernel
theorem dL_strikes_341 : decode cL_strikes 341 = .ok (.iconst 4, 1) := by decide +kernel
theorem dL_strikes_342 : decode cL_strikes 342 = .ok (.irem, 1) := by decide +kernel
theorem dL_strikes_343 : decode cL_strikes 343 = .ok (.iconst 2, 1) := by decide +kernel
theorem dL_strikes_344 : decode cL_strikes 344 = .ok (.if_icmp .ne 14, 3) := by decide +kernel
theorem dL_strikes_347 : decode cL_strikes 347 = .ok (.aload_n 0, 1) := by decide +kernel
theorem dL_strikes_348 : decode cL_strikes 348 = .ok (.iload_n 2, 1) := by decide +kernel
theorem dL_strikes_349 : decode cL_strikes 349 = .ok (.bipush 7, 2) := by decide +kernel
theorem dL_strikes_351 : decode cL_strikes 351 = .ok (.invokevirtual 51, 3) := by decide +kernel
theorem dL_strikes_354 : decode cL_strikes 354 = .ok (.iload_n 1, 1) := by decide +kernel
theorem dL_strikes_355 : decode cL_strikes 355 = .ok (.if_icmp .ne 14, 3) := by decide +kernel
theorem dL_strikes_358 : decode cL_strikes 358 = .ok (.aload_n 0, 1) := by decide +kernel
theorem dL_strikes_359 : decode cL_strikes 359 = .ok (.invokestatic 67, 3) := by decide +kernel
theorem dL_strikes_362 : decode cL_strikes 362 = .ok (.ifCond .eq 7, 3) := by decide +kernel
theorem dL_strikes_365 : decode cL_strikes 365 = .ok (.iconst 1, 1) := by decide +kernel
theorem dL_strikes_366 : decode cL_strikes 366 = .ok (.goto 4, 3) := by decide +kernel
theorem dL_strikes_369 : decode cL_strikes 369 = .ok (.iconst 0, 1) := by decide +kernel
theorem dL_strikes_370 : decode cL_strikes 370 = .ok (.istore 11, 2) := by decide +kernel
theorem dL_strikes_372 : decode cL_strikes 372 = .ok (.iload 11, 2) := by decide +kernel
theorem dL_strikes_374 : decode cL_strikes 374 = .ok (.ifCond .eq 24, 3) := by decide +kernel
theorem dL_strikes_377 : decode cL_strikes 377 = .ok (.aload_n 0, 1) := by decide +kernel
theorem dL_strikes_378 : decode cL_strikes 378 = .ok (.invokevirtual 85, 3) := by decide +kernel
theorem dL_strikes_381 : decode cL_strikes 381 = .ok (.ifCond .lt 17, 3) := by decide +kernel
theorem dL_strikes_384 : decode cL_strikes 384 = .ok (.aload_n 0, 1) := by decide +kernel
theorem dL_strikes_385 : decode cL_strikes 385 = .ok (.invokestatic 81, 3) := by decide +kernel
theorem dL_strikes_388 : decode cL_strikes 388 = .ok (.lload 6, 2) := by decide +kernel
theorem dL_strikes_390 : decode cL_strikes 390 = .ok (.lcmp, 1) := by decide +kernel
theorem dL_strikes_391 : decode cL_strikes 391 = .ok (.ifCond .ne 7, 3) := by decide +kernel
theorem dL_strikes_394 : decode cL_strikes 394 = .ok (.iconst 1, 1) := by decide +kernel
theorem dL_strikes_395 : decode cL_strikes 395 = .ok (.goto 4, 3) := by decide +kernel
theorem dL_strikes_398 : decode cL_strikes 398 = .ok (.iconst 0, 1) := by decide +kernel
theorem dL_strikes_399 : decode cL_strikes 399 = .ok (.ireturn, 1) := by decide +kernel
set_option maxRecDepth 20000 in
theorem ggL_fights_X5_winner : GoodIn wsL_fights wsX5_winner := goodIn_r _ [5, 6, 7, 8, 9, 10, 11, 12, 13, 14, 15, 16, 4, 17, 18, 19, 20, 21, 22, 23, 24, 25, 26, 27, 28, 29, 30, 31, 32, 33, 34, 35, 36, 37, 38, 39, 40, 41, 42, 43, 44, 45, 46, 47, 48, 49, 50, 51, 52, 53, 54, 55, 56, 57, 58, 59, 60, 61, 62, 63, 64, 65, 66, 67, 68, 69, 70, 71, 72, 73, 74, 75, 76, 77, 78, 79, 80, 81, 82, 83, 84, 85, 86, 87, 88, 89, 90, 91, 92, 93, 94, 95, 96, 97, 98, 99, 100, 101, 102, 103, 104, 105, 106, 107, 220, 221, 222, 223, 224, 225, 226, 227, 228, 229, 230, 231, 232, 233, 234, 235, 236, 237, 238, 239, 240, 241] (by decide +kernel) (by decide +kernel)
set_option maxRecDepth 20000 in
theorem gL_fights_X5_winner : GoodIn wsL_fights (wsV RL 89 RX5 yX5_winner wsX5_winner) := goodIn_app (goodIn_of _ (by decide +kernel)) ggL_fights_X5_winner
set_option maxRecDepth 20000 in
theorem ggL_fights_L_print : GoodIn wsL_fights wsL_print := goodIn_r _ [111, 112, 113, 114, 115, 116, 4, 117, 6, 118, 119, 120, 121, 122, 123, 124, 125, 126, 127, 13, 128, 27, 32, 129, 130, 131, 132, 22, 133, 134, 135, 136, 46, 137, 138, 139, 140, 141, 142, 143, 144, 48, 145, 146, 147, 148, 47, 149, 150, 151, 152, 153, 154, 155, 156, 157, 158, 159, 160, 161, 162, 9, 163, 164, 24, 25, 26, 16, 17, 165, 166, 167, 168, 169, 170, 171, 172, 173, 174, 175, 176, 177, 178, 179, 220, 221, 222, 223, 224, 225, 226, 227, 228, 229, 230, 231, 232, 233, 234, 235, 236, 237, 238, 239, 240, 242, 243, 244, 245, 246, 247, 248, 249, 250] (by decide +kernel) (by decide +kernel)
set_option maxRecDepth 20000 in
theorem gL_fights_L_print : GoodIn wsL_fights (va_wsS RL 81 yL_print wsL_print) := goodIn_app (goodIn_of _ (by decide +kernel)) ggL_fights_L_print
set_option maxRecDepth 20000 in
theorem ggL_fights_X5_count : GoodIn wsL_fights wsX5_count := goodIn_r _ [117, 6, 118, 119, 120, 121, 122, 123, 124, 125, 126, 127, 13, 128, 27, 32, 129, 130, 131, 132, 22, 133, 134, 135, 136, 46, 137, 138, 139, 140, 141, 142, 143, 144, 48, 145, 146, 147, 148, 47, 149, 150, 151, 152, 220, 221, 222, 223, 224, 225, 226, 227, 228, 229, 230, 231, 232, 233, 234, 235, 236, 237, 238, 239, 240, 242, 243, 244, 245, 246, 247, 248, 249, 250] (by decide +kernel) (by decide +kernel)
set_option maxRecDepth 20000 in
theorem gL_fights_X5_count : GoodIn wsL_fights (wsV RL 48 RX5 yX5_count wsX5_count) := goodIn_app (goodIn_of _ (by decide +kernel)) ggL_fights_X5_count
set_option maxRecDepth 20000 in
theorem ggL_fights_X5_bout : GoodIn wsL_fights wsX5_bout := goodIn_r _ [183, 6, 121, 8, 10, 11, 12, 13, 14, 15, 16, 4, 17, 18, 19, 20, 21, 22, 23, 24, 25, 26, 27, 28, 29, 30, 31, 32, 184, 185, 186, 187, 188, 189, 190, 191, 192, 193, 194, 195, 34, 35, 36, 37, 38, 39, 40, 41, 42, 43, 44, 45, 46, 47, 48, 49, 50, 51, 52, 53, 54, 55, 56, 57, 58, 59, 60, 61, 62, 63, 64, 65, 66, 67, 68, 69, 70, 71, 72, 73, 74, 75, 76, 77, 78, 79, 80, 81, 82, 83, 84, 85, 86, 87, 88, 89, 90, 91, 92, 93, 94, 95, 96, 97, 98, 99, 100, 101, 102, 103, 104, 105, 106, 107, 220, 221, 222, 223, 224, 225, 226, 227, 228, 229, 230, 231, 232, 233, 234, 235, 236, 237, 238, 239, 240, 242, 243, 241] (by decide +kernel) (by decide +kernel)
set_option maxRecDepth 20000 in
theorem gL_fights_X5_bout : GoodIn wsL_fights (wsV RL 38 RX5 yX5_bout wsX5_bout) := goodIn_app (goodIn_of _ (by decide +kernel)) ggL_fights_X5_bout
set_option maxRecDepth 20000 in
theorem ggL_fights_X5_conker : GoodIn wsL_fights wsX5_conker := goodIn_r _ [156, 6, 157, 158, 159, 160, 161, 162, 9, 163, 164, 24, 25, 13, 26, 27, 16, 4, 17, 165, 142, 143, 144, 48, 220, 221, 222, 223, 224, 225, 226, 227, 228, 229, 230, 231, 232, 233, 234, 235, 236, 237, 238, 239, 240] (by decide +kernel) (by decide +kernel)
set_option maxRecDepth 20000 in
theorem gL_fights_X5_conker : GoodIn wsL_fights (wsV RL 51 RX5 yX5_conker wsX5_conker) := goodIn_app (goodIn_of _ (by decide +kernel)) ggL_fights_X5_conker
set_option maxRecDepth 20000 in
theorem ggL_fights_L_conkers : GoodIn wsL_fights wsL_conkers := goodIn_r _ [198, 199, 114, 115, 116, 4, 117, 6, 118, 119, 120, 121, 122, 123, 124, 125, 126, 127, 13, 128, 27, 32, 129, 130, 131, 132, 22, 133, 134, 135, 136, 46, 137, 138, 139, 140, 141, 142, 143, 144, 48, 145, 146, 147, 148, 47, 149, 150, 151, 152, 153, 154, 155, 156, 157, 158, 159, 160, 161, 162, 9, 163, 164, 24, 25, 26, 16, 17, 165, 200, 201, 202, 203, 204, 205, 206, 207, 208, 209, 210, 211, 23, 220, 221, 222, 223, 224, 225, 226, 227, 228, 229, 230, 231, 232, 233, 234, 235, 236, 237, 238, 239, 240, 242, 243, 244, 245, 246, 247, 248, 249, 250] (by decide +kernel) (by decide +kernel)
set_option maxRecDepth 20000 in
theorem gL_fights_L_conkers : GoodIn wsL_fights (va_wsS RL 67 yL_conkers wsL_conkers) := goodIn_app (goodIn_of _ (by decide +kernel)) ggL_fights_L_conkers
set_option maxRecDepth 20000 in
theorem ggL_fights_X5_undo : GoodIn wsL_fights wsX5_undo := goodIn_r _ [215, 121, 6, 216, 217, 218, 187, 219, 189, 190, 195, 34, 35, 13, 36, 37, 38, 39, 40, 41, 42, 22, 43, 44, 45, 46, 47, 32, 48, 27, 49, 50, 220, 221, 222, 223, 224, 225, 226, 227, 242, 243, 228, 229, 230, 231, 232, 233, 234, 235, 236, 237, 238, 239, 240] (by decide +kernel) (by decide +kernel)
set_option maxRecDepth 20000 in
theorem gL_fights_X5_undo : GoodIn wsL_fights (wsV RL 85 RX5 yX5_undo wsX5_undo) := goodIn_app (goodIn_of _ (by decide +kernel)) ggL_fights_X5_undo
theorem dL_fights_0 : decode cL_fights 0 = .ok (.aload_n 0, 1) := by decide +kernel
theorem dL_fights_1 : decode cL_fights 1 = .ok (.iload_n 1, 1) := by decide +kernel
theorem dL_fights_2 : decode cL_fights 2 = .ok (.iload_n 2, 1) := by decide +kernel
theorem dL_fights_3 : decode cL_fights 3 = .ok (.iload_n 3, 1) := by decide +kernel
theorem dL_fights_4 : decode cL_fights 4 = .ok (.invokevirtual 89, 3) := by decide +kernel
theorem dL_fights_7 : decode cL_fights 7 = .ok (.istore 4, 2) := by decide +kernel
theorem dL_fights_9 : decode cL_fights 9 = .ok (.aload_n 0, 1) := by decide +kernel
theorem dL_fights_10 : decode cL_fights 10 = .ok (.invokestatic 81, 3) := by decide +kernel
theorem dL_fights_13 : decode cL_fights 13 = .ok (.lstore 5, 2) := by decide +kernel
theorem dL_fights_15 : decode cL_fights 15 = .ok (.aload_n 0, 1) := by decide +kernel
theorem dL_fights_16 : decode cL_fights 16 = .ok (.bipush 6, 2) := by decide +kernel
theorem dL_fights_18 : decode cL_fights 18 = .ok (.invokevirtual 48, 3) := by decide +kernel
theorem dL_fights_21 : decode cL_fights 21 = .ok (.istore 7, 2) := by decide +kernel
theorem dL_fights_23 : decode cL_fights 23 = .ok (.aload_n 0, 1) := by decide +kernel
theorem dL_fights_24 : decode cL_fights 24 = .ok (.iload_n 1, 1) := by decide +kernel
theorem dL_fights_25 : decode cL_fights 25 = .ok (.iload_n 2, 1) := by decide +kernel
theorem dL_fights_26 : decode cL_fights 26 = .ok (.iload_n 3, 1) := by decide +kernel
theorem dL_fights_27 : decode cL_fights 27 = .ok (.invokevirtual 38, 3) := by decide +kernel
theorem dL_fights_30 : decode cL_fights 30 = .ok (.istore 8, 2) := by decide +kernel
theorem dL_fights_32 : decode cL_fights 32 = .ok (.iload 8, 2) := by decide +kernel
theorem dL_fights_34 : decode cL_fights 34 = .ok (.ifCond .ge 26, 3) := by decide +kernel
theorem dL_fights_37 : decode cL_fights 37 = .ok (.iload 8, 2) := by decide +kernel
theorem dL_fights_39 : decode cL_fights 39 = .ok (.iload 4, 2) := by decide +kernel
theorem dL_fights_41 : decode cL_fights 41 = .ok (.if_icmp .ne 17, 3) := by decide +kernel
theorem dL_fights_44 : decode cL_fights 44 = .ok (.aload_n 0, 1) := by decide +kernel
theorem dL_fights_45 : decode cL_fights 45 = .ok (.invokestatic 81, 3) := by decide +kernel
theorem dL_fights_48 : decode cL_fights 48 = .ok (.lload 5, 2) := by decide +kernel
theorem dL_fights_50 : decode cL_fights 50 = .ok (.lcmp, 1) := by decide +kernel
theorem dL_fights_51 : decode cL_fights 51 = .ok (.ifCond .ne 7, 3) := by decide +kernel
theorem dL_fights_54 : decode cL_fights 54 = .ok (.iconst 1, 1) := by decide +kernel
theorem dL_fights_55 : decode cL_fights 55 = .ok (.goto 4, 3) := by decide +kernel
theorem dL_fights_58 : decode cL_fights 58 = .ok (.iconst 0, 1) := by decide +kernel
theorem dL_fights_59 : decode cL_fights 59 = .ok (.ireturn, 1) := by decide +kernel
theorem dL_fights_60 : decode cL_fights 60 = .ok (.iload 4, 2) := by decide +kernel
theorem dL_fights_62 : decode cL_fights 62 = .ok (.iload_n 1, 1) := by decide +kernel
theorem dL_fights_63 : decode cL_fights 63 = .ok (.if_icmp .ne 7, 3) := by decide +kernel
theorem dL_fights_66 : decode cL_fights 66 = .ok (.iload_n 2, 1) := by decide +kernel
theorem dL_fights_67 : decode cL_fights 67 = .ok (.goto 4, 3) := by decide +kernel
theorem dL_fights_70 : decode cL_fights 70 = .ok (.iload_n 1, 1) := by decide +kernel
theorem dL_fights_71 : decode cL_fights 71 = .ok (.istore 9, 2) := by decide +kernel
theorem dL_fights_73 : decode cL_fights 73 = .ok (.iload 8, 2) := by decide +kernel
theorem dL_fights_75 : decode cL_fights 75 = .ok (.iconst 1, 1) := by decide +kernel
theorem dL_fights_76 : decode cL_fights 76 = .ok (.if_icmp .lt 143, 3) := by decide +kernel
theorem dL_fights_79 : decode cL_fights 79 = .ok (.iload 8, 2) := by decide +kernel
theorem dL_fights_81 : decode cL_fights 81 = .ok (.bipush 20, 2) := by decide +kernel
theorem dL_fights_83 : decode cL_fights 83 = .ok (.if_icmp .gt 136, 3) := by decide +kernel
theorem dL_fights_86 : decode cL_fights 86 = .ok (.aload_n 0, 1) := by decide +kernel
theorem dL_fights_87 : decode cL_fights 87 = .ok (.bipush 6, 2) := by decide +kernel
theorem dL_fights_89 : decode cL_fights 89 = .ok (.invokevirtual 48, 3) := by decide +kernel
theorem dL_fights_92 : decode cL_fights 92 = .ok (.iload 7, 2) := by decide +kernel
theorem dL_fights_94 : decode cL_fights 94 = .ok (.iload 8, 2) := by decide +kernel
theorem dL_fights_96 : decode cL_fights 96 = .ok (.iadd, 1) := by decide +kernel
theorem dL_fights_97 : decode cL_fights 97 = .ok (.if_icmp .ne 122, 3) := by decide +kernel
end
section
theorem goodIn_cons1 {big b : List Cond} {c : Cond} (ha : GoodIn big [c]) (hb : GoodIn big b) : GoodIn big (c :: b) := fun w h => (List.mem_cons.mp h).elim (fun e => ha w (by rw [e]; exact List.mem_singleton_self _)) (hb w)
theorem dL_fights_100 : decode cL_fights 100 = .ok (.iload 8, 2) := by decide +kernel
theorem dL_fights_102 : decode cL_fights 102 = .ok (.bipush 20, 2) := by decide +kernel
theorem dL_fights_104 : decode cL_fights 104 = .ok (.if_icmp .eq 21, 3) := by decide +kernel
theorem dL_fights_107 : decode cL_fights 107 = .ok (.aload_n 0, 1) := by decide +kernel
theorem dL_fights_108 : decode cL_fights 108 = .ok (.iload_n 1, 1) := by decide +kernel
theorem dL_fights_109 : decode cL_fights 109 = .ok (.bipush 6, 2) := by decide +kernel
theorem dL_fights_111 : decode cL_fights 111 = .ok (.invokevirtual 51, 3) := by decide +kernel
theorem dL_fights_114 : decode cL_fights 114 = .ok (.aload_n 0, 1) := by decide +kernel
theorem dL_fights_115 : decode cL_fights 115 = .ok (.iload_n 2, 1) := by decide +kernel
theorem dL_fights_116 : decode cL_fights 116 = .ok (.bipush 6, 2) := by decide +kernel
theorem dL_fights_118 : decode cL_fights 118 = .ok (.invokevirtual 51, 3) := by decide +kernel
theorem dL_fights_121 : decode cL_fights 121 = .ok (.iadd, 1) := by decide +kernel
theorem dL_fights_122 : decode cL_fights 122 = .ok (.ifCond .le 97, 3) := by decide +kernel
theorem dL_fights_125 : decode cL_fights 125 = .ok (.iload 4, 2) := by decide +kernel
theorem dL_fights_127 : decode cL_fights 127 = .ok (.bipush (-5), 2) := by decide +kernel
theorem dL_fights_129 : decode cL_fights 129 = .ok (.if_icmp .ne 30, 3) := by decide +kernel
theorem dL_fights_132 : decode cL_fights 132 = .ok (.aload_n 0, 1) := by decide +kernel
theorem dL_fights_133 : decode cL_fights 133 = .ok (.iload_n 1, 1) := by decide +kernel
theorem dL_fights_134 : decode cL_fights 134 = .ok (.bipush 7, 2) := by decide +kernel
theorem dL_fights_136 : decode cL_fights 136 = .ok (.invokevirtual 51, 3) := by decide +kernel
theorem dL_fights_139 : decode cL_fights 139 = .ok (.iload 4, 2) := by decide +kernel
theorem dL_fights_141 : decode cL_fights 141 = .ok (.if_icmp .ne 78, 3) := by decide +kernel
theorem dL_fights_144 : decode cL_fights 144 = .ok (.aload_n 0, 1) := by decide +kernel
theorem dL_fights_145 : decode cL_fights 145 = .ok (.iload_n 2, 1) := by decide +kernel
theorem dL_fights_146 : decode cL_fights 146 = .ok (.bipush 7, 2) := by decide +kernel
theorem dL_fights_148 : decode cL_fights 148 = .ok (.invokevirtual 51, 3) := by decide +kernel
theorem dL_fights_151 : decode cL_fights 151 = .ok (.iload 4, 2) := by decide +kernel
theorem dL_fights_153 : decode cL_fights 153 = .ok (.if_icmp .ne 66, 3) := by decide +kernel
theorem dL_fights_156 : decode cL_fights 156 = .ok (.goto 52, 3) := by decide +kernel
theorem dL_fights_159 : decode cL_fights 159 = .ok (.iload 4, 2) := by decide +kernel
theorem dL_fights_161 : decode cL_fights 161 = .ok (.iload_n 1, 1) := by decide +kernel
theorem dL_fights_162 : decode cL_fights 162 = .ok (.if_icmp .eq 9, 3) := by decide +kernel
theorem dL_fights_165 : decode cL_fights 165 = .ok (.iload 4, 2) := by decide +kernel
theorem dL_fights_167 : decode cL_fights 167 = .ok (.iload_n 2, 1) := by decide +kernel
theorem dL_fights_168 : decode cL_fights 168 = .ok (.if_icmp .ne 51, 3) := by decide +kernel
theorem dL_fights_171 : decode cL_fights 171 = .ok (.aload_n 0, 1) := by decide +kernel
theorem dL_fights_172 : decode cL_fights 172 = .ok (.iload 9, 2) := by decide +kernel
theorem dL_fights_174 : decode cL_fights 174 = .ok (.bipush 6, 2) := by decide +kernel
theorem dL_fights_176 : decode cL_fights 176 = .ok (.invokevirtual 51, 3) := by decide +kernel
theorem dL_fights_179 : decode cL_fights 179 = .ok (.iconst 2, 1) := by decide +kernel
theorem dL_fights_180 : decode cL_fights 180 = .ok (.if_icmp .ne 39, 3) := by decide +kernel
theorem dL_fights_183 : decode cL_fights 183 = .ok (.aload_n 0, 1) := by decide +kernel
theorem dL_fights_184 : decode cL_fights 184 = .ok (.iload 9, 2) := by decide +kernel
theorem dL_fights_186 : decode cL_fights 186 = .ok (.bipush 7, 2) := by decide +kernel
theorem dL_fights_188 : decode cL_fights 188 = .ok (.invokevirtual 51, 3) := by decide +kernel
theorem dL_fights_191 : decode cL_fights 191 = .ok (.iload 4, 2) := by decide +kernel
theorem dL_fights_193 : decode cL_fights 193 = .ok (.if_icmp .ne 26, 3) := by decide +kernel
theorem dL_fights_196 : decode cL_fights 196 = .ok (.aload_n 0, 1) := by decide +kernel
theorem dL_fights_197 : decode cL_fights 197 = .ok (.iload 4, 2) := by decide +kernel
theorem dL_fights_199 : decode cL_fights 199 = .ok (.bipush 6, 2) := by decide +kernel
theorem dL_fights_201 : decode cL_fights 201 = .ok (.invokevirtual 51, 3) := by decide +kernel
theorem dL_fights_204 : decode cL_fights 204 = .ok (.iconst 2, 1) := by decide +kernel
theorem dL_fights_205 : decode cL_fights 205 = .ok (.if_icmp .ge 14, 3) := by decide +kernel
theorem dL_fights_208 : decode cL_fights 208 = .ok (.aload_n 0, 1) := by decide +kernel
theorem dL_fights_209 : decode cL_fights 209 = .ok (.invokestatic 67, 3) := by decide +kernel
theorem dL_fights_212 : decode cL_fights 212 = .ok (.ifCond .eq 7, 3) := by decide +kernel
theorem dL_fights_215 : decode cL_fights 215 = .ok (.iconst 1, 1) := by decide +kernel
theorem dL_fights_216 : decode cL_fights 216 = .ok (.goto 4, 3) := by decide +kernel
theorem dL_fights_219 : decode cL_fights 219 = .ok (.iconst 0, 1) := by decide +kernel
theorem dL_fights_220 : decode cL_fights 220 = .ok (.istore 10, 2) := by decide +kernel
theorem dL_fights_222 : decode cL_fights 222 = .ok (.iload 10, 2) := by decide +kernel
theorem dL_fights_224 : decode cL_fights 224 = .ok (.ifCond .eq 24, 3) := by decide +kernel
theorem dL_fights_227 : decode cL_fights 227 = .ok (.aload_n 0, 1) := by decide +kernel
theorem dL_fights_228 : decode cL_fights 228 = .ok (.invokevirtual 85, 3) := by decide +kernel
theorem dL_fights_231 : decode cL_fights 231 = .ok (.ifCond .lt 17, 3) := by decide +kernel
theorem dL_fights_234 : decode cL_fights 234 = .ok (.aload_n 0, 1) := by decide +kernel
theorem dL_fights_235 : decode cL_fights 235 = .ok (.invokestatic 81, 3) := by decide +kernel
theorem dL_fights_238 : decode cL_fights 238 = .ok (.lload 5, 2) := by decide +kernel
theorem dL_fights_240 : decode cL_fights 240 = .ok (.lcmp, 1) := by decide +kernel
theorem dL_fights_241 : decode cL_fights 241 = .ok (.ifCond .ne 7, 3) := by decide +kernel
theorem dL_fights_244 : decode cL_fights 244 = .ok (.iconst 1, 1) := by decide +kernel
theorem dL_fights_245 : decode cL_fights 245 = .ok (.goto 4, 3) := by decide +kernel
theorem dL_fights_248 : decode cL_fights 248 = .ok (.iconst 0, 1) := by decide +kernel
theorem dL_fights_249 : decode cL_fights 249 = .ok (.ireturn, 1) := by decide +kernel
set_option maxRecDepth 20000 in
theorem ggL_rounds_X5_player : GoodIn wsL_rounds wsX5_player := goodIn_r _ [5, 6, 7, 8, 9, 10, 4, 11, 12, 13, 14, 15, 16, 17, 18, 19, 20, 21, 22, 23, 24, 25, 26, 27, 28, 29, 30, 31, 32, 33, 34, 35, 246, 247, 248, 249, 250, 251, 252, 253, 254, 255, 256, 257, 258, 259, 260, 261, 262, 263, 264, 265, 266] (by decide +kernel) (by decide +kernel)
set_option maxRecDepth 20000 in
theorem gL_rounds_X5_player : GoodIn wsL_rounds (wsV RL 60 RX5 yX5_player wsX5_player) := goodIn_app (goodIn_of _ (by decide +kernel)) ggL_rounds_X5_player
set_option maxRecDepth 20000 in
theorem ggL_rounds_L_print : GoodIn wsL_rounds wsL_print := goodIn_r _ [39, 40, 41, 42, 43, 44, 4, 45, 6, 46, 47, 48, 49, 50, 51, 52, 15, 16, 17, 18, 19, 20, 21, 22, 23, 24, 25, 26, 27, 28, 29, 30, 31, 53, 54, 55, 56, 57, 58, 59, 60, 61, 62, 63, 64, 65, 66, 67, 68, 69, 70, 71, 72, 73, 74, 75, 76, 77, 78, 79, 80, 81, 82, 83, 84, 85, 86, 13, 14, 87, 1, 2, 3, 5, 7, 8, 9, 10, 11, 12, 32, 33, 34, 35, 246, 247, 248, 249, 250, 251, 252, 253, 254, 255, 256, 257, 258, 259, 260, 261, 262, 263, 264, 265, 266, 267, 268, 269, 270, 271, 272, 273, 274, 275] (by decide +kernel) (by decide +kernel)
set_option maxRecDepth 20000 in
theorem gL_rounds_L_print : GoodIn wsL_rounds (va_wsS RL 81 yL_print wsL_print) := goodIn_app (goodIn_of _ (by decide +kernel)) ggL_rounds_L_print
set_option maxRecDepth 20000 in
theorem ggL_rounds_X5_count : GoodIn wsL_rounds wsX5_count := goodIn_r _ [45, 6, 46, 47, 48, 49, 50, 51, 52, 15, 16, 17, 18, 19, 20, 21, 22, 23, 24, 25, 26, 27, 28, 29, 30, 31, 53, 54, 55, 56, 57, 58, 59, 60, 61, 62, 63, 64, 65, 66, 67, 68, 69, 70, 246, 247, 248, 249, 250, 251, 252, 253, 254, 255, 256, 257, 258, 259, 260, 261, 262, 263, 264, 265, 266, 267, 268, 269, 270, 271, 272, 273, 274, 275] (by decide +kernel) (by decide +kernel)
set_option maxRecDepth 20000 in
theorem gL_rounds_X5_count : GoodIn wsL_rounds (wsV RL 48 RX5 yX5_count wsX5_count) := goodIn_app (goodIn_of _ (by decide +kernel)) ggL_rounds_X5_count
set_option maxRecDepth 20000 in
theorem ggL_rounds_X5_round : GoodIn wsL_rounds wsX5_round := goodIn_r _ [91, 92, 49, 6, 93, 94, 95, 12, 13, 4, 14, 96, 97, 98, 99, 100, 101, 102, 103, 104, 105, 106, 107, 108, 109, 18, 110, 111, 112, 113, 114, 115, 116, 26, 117, 118, 119, 31, 66, 21, 61, 20, 120, 121, 122, 123, 124, 125, 126, 127, 128, 129, 130, 131, 132, 133, 134, 33, 34, 35, 135, 136, 137, 138, 139, 140, 141, 142, 143, 144, 145, 146, 147, 148, 149, 150, 151, 152, 153, 154, 155, 156, 157, 158, 159, 160, 161, 162, 163, 164, 165, 166, 167, 168, 169, 170, 171, 172, 173, 174, 175, 176, 177, 178, 179, 180, 181, 182, 183, 184, 185, 186, 187, 188, 189, 190, 191, 192, 193, 194, 195, 196, 197, 198, 199, 200, 201, 246, 247, 248, 249, 250, 251, 252, 253, 276, 277, 267, 268, 254, 255, 256, 257, 258, 259, 260, 261, 262, 263, 264, 265, 266, 278] (by decide +kernel) (by decide +kernel)
set_option maxRecDepth 20000 in
theorem gL_rounds_X5_round : GoodIn wsL_rounds (wsV RL 42 RX5 yX5_round wsX5_round) := goodIn_app (goodIn_of _ (by decide +kernel)) ggL_rounds_X5_round
theorem gp_rounds_hangs_0 : GoodIn wsL_rounds [.code yL_hangs cL_hangs 10 (some .boolean)] := goodIn_r _ [204] (by decide +kernel) (by decide +kernel)
set_option maxRecDepth 20000 in
theorem gp_rounds_hangs_wsL_hangs_r1 : GoodIn wsL_rounds wsL_hangs_r1 := goodIn_r _ [42, 43, 44, 4, 45, 6, 46, 47, 48, 49, 50, 51, 52, 15, 16, 17, 18, 19, 20, 21, 22, 23, 24, 25] (by decide +kernel) (by decide +kernel)
set_option maxRecDepth 20000 in
theorem gp_rounds_hangs_wsL_hangs_r2 : GoodIn wsL_rounds wsL_hangs_r2 := goodIn_r _ [26, 27, 28, 29, 30, 31, 53, 54, 55, 56, 57, 58, 59, 60, 61, 62, 63, 64, 65, 66, 67, 68, 69, 70] (by decide +kernel) (by decide +kernel)
set_option maxRecDepth 20000 in
theorem gp_rounds_hangs_wsL_hangs_r3 : GoodIn wsL_rounds wsL_hangs_r3 := goodIn_r _ [205, 206, 207, 208, 209, 210, 211, 212, 213, 214, 215, 216, 71, 72, 73, 74, 75, 76, 77, 78, 79, 80, 81, 82] (by decide +kernel) (by decide +kernel)
set_option maxRecDepth 20000 in
theorem gp_rounds_hangs_wsL_hangs_r4 : GoodIn wsL_rounds wsL_hangs_r4 := goodIn_r _ [83, 84, 85, 86, 13, 14, 87, 1, 2, 3, 5, 7, 8, 9, 10, 11, 12, 32, 33, 34, 35, 217, 218, 219] (by decide +kernel) (by decide +kernel)
set_option maxRecDepth 20000 in
theorem gp_rounds_hangs_wsL_hangs_r5 : GoodIn wsL_rounds wsL_hangs_r5 := goodIn_r _ [220, 221, 222, 38, 223, 224, 225, 226, 227, 228, 229, 230, 231, 232, 233, 234, 235, 236, 237] (by decide +kernel) (by decide +kernel)
set_option maxRecDepth 20000 in
theorem gp_rounds_hangs_wsX50 : GoodIn wsL_rounds wsX50 := goodIn_r _ [246, 247, 248, 249, 250, 251, 252, 253] (by decide +kernel) (by decide +kernel)
set_option maxRecDepth 20000 in
theorem gp_rounds_hangs_wsX40 : GoodIn wsL_rounds wsX40 := goodIn_r _ [254, 255, 256, 257, 258, 259, 260, 261, 262, 263, 264, 265, 266] (by decide +kernel) (by decide +kernel)
set_option maxRecDepth 20000 in
theorem gp_rounds_hangs_wsX10 : GoodIn wsL_rounds wsX10 := goodIn_r _ [267, 268] (by decide +kernel) (by decide +kernel)
set_option maxRecDepth 20000 in
theorem gp_rounds_hangs_wsX30 : GoodIn wsL_rounds wsX30 := goodIn_r _ [269, 270, 271, 272, 273, 274, 275] (by decide +kernel) (by decide +kernel)
theorem ggL_rounds_L_hangs : GoodIn wsL_rounds wsL_hangs := goodIn_cons1 gp_rounds_hangs_0 (goodIn_app (goodIn_app (goodIn_app (goodIn_app (goodIn_app gp_rounds_hangs_wsL_hangs_r1 (goodIn_app gp_rounds_hangs_wsL_hangs_r2 (goodIn_app gp_rounds_hangs_wsL_hangs_r3 (goodIn_app gp_rounds_hangs_wsL_hangs_r4 (gp_rounds_hangs_wsL_hangs_r5))))) gp_rounds_hangs_wsX50) gp_rounds_hangs_wsX40) gp_rounds_hangs_wsX10) gp_rounds_hangs_wsX30)
set_option maxRecDepth 20000 in
theorem gL_rounds_L_hangs : GoodIn wsL_rounds (va_wsS RL 92 yL_hangs wsL_hangs) := goodIn_app (goodIn_of _ (by decide +kernel)) ggL_rounds_L_hangs
set_option maxRecDepth 20000 in
theorem ggL_rounds_X5_undo : GoodIn wsL_rounds wsX5_undo := goodIn_r _ [241, 49, 6, 242, 243, 244, 99, 245, 101, 102, 107, 108, 109, 18, 110, 111, 112, 113, 114, 115, 116, 26, 117, 118, 119, 31, 66, 21, 61, 20, 120, 121, 246, 247, 248, 249, 250, 251, 252, 253, 267, 268, 254, 255, 256, 257, 258, 259, 260, 261, 262, 263, 264, 265, 266] (by decide +kernel) (by decide +kernel)
set_option maxRecDepth 20000 in
theorem gL_rounds_X5_undo : GoodIn wsL_rounds (wsV RL 85 RX5 yX5_undo wsX5_undo) := goodIn_app (goodIn_of _ (by decide +kernel)) ggL_rounds_X5_undo
theorem dL_rounds_0 : decode cL_rounds 0 = .ok (.iconst 0, 1) := by decide +kernel
theorem dL_rounds_1 : decode cL_rounds 1 = .ok (.istore_n 2, 1) := by decide +kernel
theorem dL_rounds_2 : decode cL_rounds 2 = .ok (.iconst 0, 1) := by decide +kernel
theorem dL_rounds_3 : decode cL_rounds 3 = .ok (.istore_n 3, 1) := by decide +kernel
theorem dL_rounds_4 : decode cL_rounds 4 = .ok (.iload_n 3, 1) := by decide +kernel
theorem dL_rounds_5 : decode cL_rounds 5 = .ok (.bipush 6, 2) := by decide +kernel
theorem dL_rounds_7 : decode cL_rounds 7 = .ok (.if_icmp .ge 27, 3) := by decide +kernel
theorem dL_rounds_10 : decode cL_rounds 10 = .ok (.iload_n 2, 1) := by decide +kernel
theorem dL_rounds_11 : decode cL_rounds 11 = .ok (.aload_n 0, 1) := by decide +kernel
theorem dL_rounds_12 : decode cL_rounds 12 = .ok (.iload_n 3, 1) := by decide +kernel
theorem dL_rounds_13 : decode cL_rounds 13 = .ok (.bipush 6, 2) := by decide +kernel
theorem dL_rounds_15 : decode cL_rounds 15 = .ok (.invokevirtual 60, 3) := by decide +kernel
theorem dL_rounds_18 : decode cL_rounds 18 = .ok (.ifCond .lt 7, 3) := by decide +kernel
theorem dL_rounds_21 : decode cL_rounds 21 = .ok (.iconst 1, 1) := by decide +kernel
theorem dL_rounds_22 : decode cL_rounds 22 = .ok (.goto 4, 3) := by decide +kernel
theorem dL_rounds_25 : decode cL_rounds 25 = .ok (.iconst 0, 1) := by decide +kernel
theorem dL_rounds_26 : decode cL_rounds 26 = .ok (.iadd, 1) := by decide +kernel
theorem dL_rounds_27 : decode cL_rounds 27 = .ok (.istore_n 2, 1) := by decide +kernel
theorem dL_rounds_28 : decode cL_rounds 28 = .ok (.iinc 3 1, 3) := by decide +kernel
theorem dL_rounds_31 : decode cL_rounds 31 = .ok (.goto (-27), 3) := by decide +kernel
theorem dL_rounds_34 : decode cL_rounds 34 = .ok (.aload_n 0, 1) := by decide +kernel
theorem dL_rounds_35 : decode cL_rounds 35 = .ok (.invokestatic 81, 3) := by decide +kernel
theorem dL_rounds_38 : decode cL_rounds 38 = .ok (.lstore_n 3, 1) := by decide +kernel
theorem dL_rounds_39 : decode cL_rounds 39 = .ok (.aload_n 0, 1) := by decide +kernel
theorem dL_rounds_40 : decode cL_rounds 40 = .ok (.bipush 6, 2) := by decide +kernel
theorem dL_rounds_42 : decode cL_rounds 42 = .ok (.invokevirtual 48, 3) := by decide +kernel
theorem dL_rounds_45 : decode cL_rounds 45 = .ok (.istore 5, 2) := by decide +kernel
theorem dL_rounds_47 : decode cL_rounds 47 = .ok (.aload_n 0, 1) := by decide +kernel
theorem dL_rounds_48 : decode cL_rounds 48 = .ok (.iload_n 1, 1) := by decide +kernel
theorem dL_rounds_49 : decode cL_rounds 49 = .ok (.invokevirtual 42, 3) := by decide +kernel
theorem dL_rounds_52 : decode cL_rounds 52 = .ok (.istore 6, 2) := by decide +kernel
theorem dL_rounds_54 : decode cL_rounds 54 = .ok (.iload 6, 2) := by decide +kernel
theorem dL_rounds_56 : decode cL_rounds 56 = .ok (.iload_n 2, 1) := by decide +kernel
theorem dL_rounds_57 : decode cL_rounds 57 = .ok (.iconst 2, 1) := by decide +kernel
theorem dL_rounds_58 : decode cL_rounds 58 = .ok (.idiv, 1) := by decide +kernel
theorem dL_rounds_59 : decode cL_rounds 59 = .ok (.if_icmp .ne 45, 3) := by decide +kernel
theorem dL_rounds_62 : decode cL_rounds 62 = .ok (.aload_n 0, 1) := by decide +kernel
theorem dL_rounds_63 : decode cL_rounds 63 = .ok (.bipush 6, 2) := by decide +kernel
theorem dL_rounds_65 : decode cL_rounds 65 = .ok (.invokevirtual 48, 3) := by decide +kernel
theorem dL_rounds_68 : decode cL_rounds 68 = .ok (.iload 5, 2) := by decide +kernel
theorem dL_rounds_70 : decode cL_rounds 70 = .ok (.iload 6, 2) := by decide +kernel
theorem dL_rounds_72 : decode cL_rounds 72 = .ok (.iadd, 1) := by decide +kernel
theorem dL_rounds_73 : decode cL_rounds 73 = .ok (.if_icmp .lt 31, 3) := by decide +kernel
theorem dL_rounds_76 : decode cL_rounds 76 = .ok (.aload_n 0, 1) := by decide +kernel
theorem dL_rounds_77 : decode cL_rounds 77 = .ok (.bipush 6, 2) := by decide +kernel
theorem dL_rounds_79 : decode cL_rounds 79 = .ok (.invokevirtual 48, 3) := by decide +kernel
theorem dL_rounds_82 : decode cL_rounds 82 = .ok (.iload 5, 2) := by decide +kernel
theorem dL_rounds_84 : decode cL_rounds 84 = .ok (.bipush 20, 2) := by decide +kernel
theorem dL_rounds_86 : decode cL_rounds 86 = .ok (.iload 6, 2) := by decide +kernel
theorem dL_rounds_88 : decode cL_rounds 88 = .ok (.imul, 1) := by decide +kernel
theorem dL_rounds_89 : decode cL_rounds 89 = .ok (.iadd, 1) := by decide +kernel
theorem dL_rounds_90 : decode cL_rounds 90 = .ok (.if_icmp .gt 14, 3) := by decide +kernel
theorem dL_rounds_93 : decode cL_rounds 93 = .ok (.aload_n 0, 1) := by decide +kernel
theorem dL_rounds_94 : decode cL_rounds 94 = .ok (.invokestatic 92, 3) := by decide +kernel
theorem dL_rounds_97 : decode cL_rounds 97 = .ok (.ifCond .eq 7, 3) := by decide +kernel
theorem dL_rounds_100 : decode cL_rounds 100 = .ok (.iconst 1, 1) := by decide +kernel
theorem dL_rounds_101 : decode cL_rounds 101 = .ok (.goto 4, 3) := by decide +kernel
theorem dL_rounds_104 : decode cL_rounds 104 = .ok (.iconst 0, 1) := by decide +kernel
theorem dL_rounds_105 : decode cL_rounds 105 = .ok (.istore 7, 2) := by decide +kernel
theorem dL_rounds_107 : decode cL_rounds 107 = .ok (.iload 7, 2) := by decide +kernel
theorem dL_rounds_109 : decode cL_rounds 109 = .ok (.ifCond .eq 23, 3) := by decide +kernel
theorem dL_rounds_112 : decode cL_rounds 112 = .ok (.aload_n 0, 1) := by decide +kernel
theorem dL_rounds_113 : decode cL_rounds 113 = .ok (.invokevirtual 85, 3) := by decide +kernel
theorem dL_rounds_116 : decode cL_rounds 116 = .ok (.ifCond .lt 16, 3) := by decide +kernel
theorem dL_rounds_119 : decode cL_rounds 119 = .ok (.aload_n 0, 1) := by decide +kernel
theorem dL_rounds_120 : decode cL_rounds 120 = .ok (.invokestatic 81, 3) := by decide +kernel
theorem dL_rounds_123 : decode cL_rounds 123 = .ok (.lload_n 3, 1) := by decide +kernel
theorem dL_rounds_124 : decode cL_rounds 124 = .ok (.lcmp, 1) := by decide +kernel
theorem dL_rounds_125 : decode cL_rounds 125 = .ok (.ifCond .ne 7, 3) := by decide +kernel
theorem dL_rounds_128 : decode cL_rounds 128 = .ok (.iconst 1, 1) := by decide +kernel
theorem dL_rounds_129 : decode cL_rounds 129 = .ok (.goto 4, 3) := by decide +kernel
theorem dL_rounds_132 : decode cL_rounds 132 = .ok (.iconst 0, 1) := by decide +kernel
theorem dL_rounds_133 : decode cL_rounds 133 = .ok (.ireturn, 1) := by decide +kernel
set_option maxRecDepth 20000 in
theorem ggL_law_X5_init : GoodIn wsL_law wsX5_init := goodIn_r _ [6, 7, 8, 9, 10, 11, 12, 13, 14, 15, 16, 17, 18, 19, 20, 21, 22, 23, 24, 25, 26, 27, 28, 29, 30, 31, 32, 33, 34, 35, 36, 37, 38, 39, 40, 41, 42, 43, 44, 45, 46, 47, 48, 49, 50, 51, 52, 53, 54, 55, 56, 57, 58, 59, 60, 61, 62, 63, 64, 65, 66, 67, 68, 69, 70, 71, 72, 73, 74, 75, 76, 77, 78, 409, 410, 411, 412, 413, 414, 415, 416, 417, 418, 419, 420, 421, 401, 402, 403, 404, 405, 406, 407, 408, 422, 423, 424, 425, 426, 427, 428, 429, 430, 431, 432, 433] (by decide +kernel) (by decide +kernel)
set_option maxRecDepth 20000 in
theorem gL_law_X5_init : GoodIn wsL_law (wsX5_init) := ggL_law_X5_init
theorem gp_law_hangs_0 : GoodIn wsL_law [.code yL_hangs cL_hangs 10 (some .boolean)] := goodIn_r _ [82] (by decide +kernel) (by decide +kernel)
set_option maxRecDepth 20000 in
theorem gp_law_hangs_wsL_hangs_r1 : GoodIn wsL_law wsL_hangs_r1 := goodIn_r _ [83, 84, 85, 2, 86, 13, 87, 88, 89, 19, 90, 23, 91, 92, 93, 94, 12, 95, 48, 46, 96, 97, 98, 99] (by decide +kernel) (by decide +kernel)
set_option maxRecDepth 20000 in
theorem gp_law_hangs_wsL_hangs_r2 : GoodIn wsL_law wsL_hangs_r2 := goodIn_r _ [40, 100, 101, 102, 103, 44, 104, 105, 106, 107, 108, 109, 110, 111, 47, 112, 113, 114, 115, 45, 116, 117, 118, 119] (by decide +kernel) (by decide +kernel)
set_option maxRecDepth 20000 in
theorem gp_law_hangs_wsL_hangs_r3 : GoodIn wsL_law wsL_hangs_r3 := goodIn_r _ [120, 121, 122, 123, 124, 125, 126, 127, 128, 129, 130, 131, 132, 133, 134, 135, 136, 137, 138, 139, 140, 141, 142, 143] (by decide +kernel) (by decide +kernel)
set_option maxRecDepth 20000 in
theorem gp_law_hangs_wsL_hangs_r4 : GoodIn wsL_law wsL_hangs_r4 := goodIn_r _ [144, 145, 146, 147, 148, 149, 150, 151, 152, 153, 154, 155, 156, 157, 158, 159, 160, 161, 162, 163, 164, 165, 166, 167] (by decide +kernel) (by decide +kernel)
set_option maxRecDepth 20000 in
theorem gp_law_hangs_wsL_hangs_r5 : GoodIn wsL_law wsL_hangs_r5 := goodIn_r _ [168, 169, 170, 81, 171, 37, 172, 173, 174, 175, 176, 177, 178, 179, 180, 181, 182, 183, 184] (by decide +kernel) (by decide +kernel)
set_option maxRecDepth 20000 in
theorem gp_law_hangs_wsX50 : GoodIn wsL_law wsX50 := goodIn_r _ [401, 402, 403, 404, 405, 406, 407, 408] (by decide +kernel) (by decide +kernel)
set_option maxRecDepth 20000 in
theorem gp_law_hangs_wsX40 : GoodIn wsL_law wsX40 := goodIn_r _ [409, 410, 411, 412, 413, 414, 415, 416, 417, 418, 419, 420, 421] (by decide +kernel) (by decide +kernel)
set_option maxRecDepth 20000 in
theorem gp_law_hangs_wsX10 : GoodIn wsL_law wsX10 := goodIn_r _ [422, 423] (by decide +kernel) (by decide +kernel)
set_option maxRecDepth 20000 in
theorem gp_law_hangs_wsX30 : GoodIn wsL_law wsX30 := goodIn_r _ [424, 425, 426, 427, 428, 429, 430] (by decide +kernel) (by decide +kernel)
theorem ggL_law_L_hangs : GoodIn wsL_law wsL_hangs := goodIn_cons1 gp_law_hangs_0 (goodIn_app (goodIn_app (goodIn_app (goodIn_app (goodIn_app gp_law_hangs_wsL_hangs_r1 (goodIn_app gp_law_hangs_wsL_hangs_r2 (goodIn_app gp_law_hangs_wsL_hangs_r3 (goodIn_app gp_law_hangs_wsL_hangs_r4 (gp_law_hangs_wsL_hangs_r5))))) gp_law_hangs_wsX50) gp_law_hangs_wsX40) gp_law_hangs_wsX10) gp_law_hangs_wsX30)
set_option maxRecDepth 20000 in
theorem gL_law_L_hangs : GoodIn wsL_law (va_wsS RL 92 yL_hangs wsL_hangs) := goodIn_app (goodIn_of _ (by decide +kernel)) ggL_law_L_hangs
theorem gp_law_rounds_0 : GoodIn wsL_law [.code yL_rounds cL_rounds 8 (some .boolean)] := goodIn_r _ [187] (by decide +kernel) (by decide +kernel)
set_option maxRecDepth 20000 in
theorem gp_law_rounds_wsL_rounds_r1 : GoodIn wsL_law wsL_rounds_r1 := goodIn_r _ [151, 152, 153, 2, 154, 13, 155, 156, 157, 158, 159, 160, 148, 149, 92, 93, 94, 12, 95, 48, 46, 96, 97, 98] (by decide +kernel) (by decide +kernel)
set_option maxRecDepth 20000 in
theorem gp_law_rounds_wsL_rounds_r2 : GoodIn wsL_law wsL_rounds_r2 := goodIn_r _ [99, 40, 100, 101, 102, 103, 44, 161, 162, 163, 164, 188, 189, 81, 190, 191, 192, 83, 84, 85, 86, 87, 88, 89] (by decide +kernel) (by decide +kernel)
set_option maxRecDepth 20000 in
theorem gp_law_rounds_wsL_rounds_r3 : GoodIn wsL_law wsL_rounds_r3 := goodIn_r _ [19, 90, 23, 91, 104, 105, 106, 107, 108, 109, 110, 111, 47, 112, 113, 114, 115, 45, 116, 117, 118, 119, 132, 133] (by decide +kernel) (by decide +kernel)
set_option maxRecDepth 20000 in
theorem gp_law_rounds_wsL_rounds_r4 : GoodIn wsL_law wsL_rounds_r4 := goodIn_r _ [134, 135, 136, 137, 138, 139, 140, 141, 142, 143, 144, 145, 146, 147, 150, 193, 194, 195, 196, 197, 27, 31, 198, 199] (by decide +kernel) (by decide +kernel)
set_option maxRecDepth 20000 in
theorem gp_law_rounds_wsL_rounds_r5 : GoodIn wsL_law wsL_rounds_r5 := goodIn_r _ [200, 201, 18, 202, 57, 56, 203, 204, 205, 206, 207, 208, 209, 210, 38, 211, 212, 213, 214, 39, 41, 42, 43, 49] (by decide +kernel) (by decide +kernel)
set_option maxRecDepth 20000 in
theorem gp_law_rounds_wsL_rounds_r6 : GoodIn wsL_law wsL_rounds_r6 := goodIn_r _ [50, 215, 216, 217, 26, 218, 73, 219, 220, 221, 30, 222, 78, 223, 224, 225, 226, 227, 228, 229, 77, 230, 231, 232] (by decide +kernel) (by decide +kernel)
set_option maxRecDepth 20000 in
theorem gp_law_rounds_wsL_rounds_r7 : GoodIn wsL_law wsL_rounds_r7 := goodIn_r _ [233, 234, 235, 236, 237, 238, 239, 240, 241, 242, 243, 244, 245, 246, 247, 248, 249, 250, 251, 252, 253, 254, 255, 256] (by decide +kernel) (by decide +kernel)
set_option maxRecDepth 20000 in
theorem gp_law_rounds_wsL_rounds_r8 : GoodIn wsL_law wsL_rounds_r8 := goodIn_r _ [257, 258, 259, 260, 261, 262, 263, 264, 265, 266, 267, 268, 269, 270, 271, 272, 273, 274, 275, 276, 277, 278, 279, 280] (by decide +kernel) (by decide +kernel)
set_option maxRecDepth 20000 in
theorem gp_law_rounds_wsL_rounds_r9 : GoodIn wsL_law wsL_rounds_r9 := goodIn_r _ [281, 282, 283, 284, 285, 286, 287, 288, 289, 79, 80, 82, 120, 121, 122, 123, 124, 125, 126, 127, 128, 129, 130, 131] (by decide +kernel) (by decide +kernel)
set_option maxRecDepth 20000 in
theorem gp_law_rounds_wsL_rounds_r10 : GoodIn wsL_law wsL_rounds_r10 := goodIn_r _ [165, 166, 167, 168, 169, 170, 171, 37, 172, 173, 174, 175, 176, 177, 178, 179, 180, 181, 182, 183, 184, 290, 291, 292] (by decide +kernel) (by decide +kernel)
set_option maxRecDepth 20000 in
theorem gp_law_rounds_wsL_rounds_r11 : GoodIn wsL_law wsL_rounds_r11 := goodIn_r _ [293, 294, 295, 296, 297] (by decide +kernel) (by decide +kernel)
set_option maxRecDepth 20000 in
theorem gp_law_rounds_wsX50 : GoodIn wsL_law wsX50 := goodIn_r _ [401, 402, 403, 404, 405, 406, 407, 408] (by decide +kernel) (by decide +kernel)
set_option maxRecDepth 20000 in
theorem gp_law_rounds_wsX40 : GoodIn wsL_law wsX40 := goodIn_r _ [409, 410, 411, 412, 413, 414, 415, 416, 417, 418, 419, 420, 421] (by decide +kernel) (by decide +kernel)
set_option maxRecDepth 20000 in
theorem gp_law_rounds_wsX10 : GoodIn wsL_law wsX10 := goodIn_r _ [422, 423] (by decide +kernel) (by decide +kernel)
set_option maxRecDepth 20000 in
theorem gp_law_rounds_wsX30 : GoodIn wsL_law wsX30 := goodIn_r _ [424, 425, 426, 427, 428, 429, 430] (by decide +kernel) (by decide +kernel)
set_option maxRecDepth 20000 in
theorem gp_law_rounds_wsX20 : GoodIn wsL_law wsX20 := goodIn_r _ [432, 433] (by decide +kernel) (by decide +kernel)
set_option maxRecDepth 20000 in
theorem gp_law_rounds_wsX00 : GoodIn wsL_law wsX00 := goodIn_r _ [431] (by decide +kernel) (by decide +kernel)
theorem ggL_law_L_rounds : GoodIn wsL_law wsL_rounds := goodIn_cons1 gp_law_rounds_0 (goodIn_app (goodIn_app (goodIn_app (goodIn_app (goodIn_app (goodIn_app (goodIn_app gp_law_rounds_wsL_rounds_r1 (goodIn_app gp_law_rounds_wsL_rounds_r2 (goodIn_app gp_law_rounds_wsL_rounds_r3 (goodIn_app gp_law_rounds_wsL_rounds_r4 (goodIn_app gp_law_rounds_wsL_rounds_r5 (goodIn_app gp_law_rounds_wsL_rounds_r6 (goodIn_app gp_law_rounds_wsL_rounds_r7 (goodIn_app gp_law_rounds_wsL_rounds_r8 (goodIn_app gp_law_rounds_wsL_rounds_r9 (goodIn_app gp_law_rounds_wsL_rounds_r10 (gp_law_rounds_wsL_rounds_r11))))))))))) gp_law_rounds_wsX50) gp_law_rounds_wsX40) gp_law_rounds_wsX10) gp_law_rounds_wsX30) gp_law_rounds_wsX20) gp_law_rounds_wsX00)
set_option maxRecDepth 20000 in
theorem gL_law_L_rounds : GoodIn wsL_law (va_wsS RL 96 yL_rounds wsL_rounds) := goodIn_app (goodIn_of _ (by decide +kernel)) ggL_law_L_rounds
set_option maxRecDepth 20000 in
theorem ggL_law_L_cell : GoodIn wsL_law wsL_cell := goodIn_r _ [300, 301, 302] (by decide +kernel) (by decide +kernel)
set_option maxRecDepth 20000 in
theorem gL_law_L_cell : GoodIn wsL_law (va_wsS RL 100 yL_cell wsL_cell) := goodIn_app (goodIn_of _ (by decide +kernel)) ggL_law_L_cell
set_option maxRecDepth 20000 in
theorem ggL_law_X5_count : GoodIn wsL_law wsX5_count := goodIn_r _ [86, 13, 87, 88, 89, 19, 90, 23, 91, 92, 93, 94, 12, 95, 48, 46, 96, 97, 98, 99, 40, 100, 101, 102, 103, 44, 104, 105, 106, 107, 108, 109, 110, 111, 47, 112, 113, 114, 115, 45, 116, 117, 118, 119, 401, 402, 403, 404, 405, 406, 407, 408, 409, 410, 411, 412, 413, 414, 415, 416, 417, 418, 419, 420, 421, 422, 423, 424, 425, 426, 427, 428, 429, 430] (by decide +kernel) (by decide +kernel)
set_option maxRecDepth 20000 in
theorem gL_law_X5_count : GoodIn wsL_law (wsV RL 48 RX5 yX5_count wsX5_count) := goodIn_app (goodIn_of _ (by decide +kernel)) ggL_law_X5_count
set_option maxRecDepth 20000 in
theorem ggL_law_L_print : GoodIn wsL_law wsL_print := goodIn_r _ [190, 191, 192, 83, 84, 85, 2, 86, 13, 87, 88, 89, 19, 90, 23, 91, 92, 93, 94, 12, 95, 48, 46, 96, 97, 98, 99, 40, 100, 101, 102, 103, 44, 104, 105, 106, 107, 108, 109, 110, 111, 47, 112, 113, 114, 115, 45, 116, 117, 118, 119, 132, 133, 134, 135, 136, 137, 138, 139, 140, 141, 142, 143, 144, 145, 146, 147, 148, 149, 150, 151, 152, 153, 154, 155, 156, 157, 158, 159, 160, 161, 162, 163, 164, 401, 402, 403, 404, 405, 406, 407, 408, 409, 410, 411, 412, 413, 414, 415, 416, 417, 418, 419, 420, 421, 422, 423, 424, 425, 426, 427, 428, 429, 430] (by decide +kernel) (by decide +kernel)
set_option maxRecDepth 20000 in
theorem gL_law_L_print : GoodIn wsL_law (va_wsS RL 81 yL_print wsL_print) := goodIn_app (goodIn_of _ (by decide +kernel)) ggL_law_L_print
set_option maxRecDepth 20000 in
theorem ggL_law_L_low : GoodIn wsL_law wsL_low := goodIn_r _ [305, 306] (by decide +kernel) (by decide +kernel)
set_option maxRecDepth 20000 in
theorem gL_law_L_low : GoodIn wsL_law (va_wsS RL 10 yL_low wsL_low) := goodIn_app (goodIn_of _ (by decide +kernel)) ggL_law_L_low
set_option maxRecDepth 20000 in
theorem ggL_law_X5_thread : GoodIn wsL_law wsX5_thread := goodIn_r _ [310, 13, 155, 87, 19, 157, 158, 2, 159, 160, 148, 149, 199, 200, 201, 18, 202, 57, 56, 203, 204, 205, 206, 207, 208, 209, 12, 210, 38, 211, 212, 213, 214, 39, 40, 41, 42, 43, 44, 45, 46, 47, 48, 49, 50, 311, 312, 313, 314, 401, 402, 403, 404, 405, 406, 407, 408, 409, 410, 411, 412, 413, 414, 415, 416, 417, 418, 419, 420, 421, 422, 423] (by decide +kernel) (by decide +kernel)
set_option maxRecDepth 20000 in
theorem gL_law_X5_thread : GoodIn wsL_law (wsV RL 16 RX5 yX5_thread wsX5_thread) := goodIn_app (goodIn_of _ (by decide +kernel)) ggL_law_X5_thread
set_option maxRecDepth 20000 in
theorem ggL_law_L_act : GoodIn wsL_law wsL_act := goodIn_r _ [317, 3, 303, 304, 81, 305, 306, 307, 308, 309, 2, 310, 13, 155, 87, 19, 157, 158, 159, 160, 148, 149, 199, 200, 201, 18, 202, 57, 56, 203, 204, 205, 206, 207, 208, 209, 12, 210, 38, 211, 212, 213, 214, 39, 40, 41, 42, 43, 44, 45, 46, 47, 48, 49, 50, 311, 312, 313, 314, 318, 319, 320, 321, 322, 323, 324, 325, 142, 141, 144, 145, 146, 147, 326, 327, 328, 329, 136, 330, 331, 332, 333, 334, 335, 336, 337, 338, 339, 340, 341, 342, 343, 344, 345, 184, 346, 347, 348, 349, 350, 351, 352, 353, 354, 355, 271, 272, 273, 274, 275, 276, 277, 356, 357, 358, 359, 27, 360, 361, 362, 363, 364, 365, 366, 367, 368, 250, 251, 252, 253, 215, 216, 217, 26, 218, 73, 239, 240, 241, 242, 243, 244, 245, 246, 247, 248, 249, 254, 255, 256, 257, 258, 231, 232, 233, 234, 259, 260, 261, 262, 263, 264, 265, 266, 267, 268, 269, 270, 278, 279, 280, 281, 282, 283, 284, 285, 286, 287, 288, 289, 193, 194, 195, 196, 197, 31, 198, 219, 220, 221, 30, 222, 78, 223, 162, 163, 164, 224, 225, 226, 227, 228, 229, 77, 230, 235, 236, 237, 238, 369, 370, 371, 372, 373, 374, 375, 376, 377, 401, 402, 403, 404, 405, 406, 407, 408, 409, 410, 411, 412, 413, 414, 415, 416, 417, 418, 419, 420, 421, 422, 423, 431, 432, 433] (by decide +kernel) (by decide +kernel)
set_option maxRecDepth 20000 in
theorem gL_law_L_act : GoodIn wsL_law (va_wsS RL 104 yL_act wsL_act) := goodIn_app (goodIn_of _ (by decide +kernel)) ggL_law_L_act
set_option maxRecDepth 20000 in
theorem ggL_law_X5_undo : GoodIn wsL_law wsX5_undo := goodIn_r _ [293, 19, 13, 294, 295, 296, 18, 297, 57, 56, 207, 208, 209, 12, 210, 38, 211, 212, 213, 214, 39, 40, 41, 42, 43, 44, 45, 46, 47, 48, 49, 50, 401, 402, 403, 404, 405, 406, 407, 408, 422, 423, 409, 410, 411, 412, 413, 414, 415, 416, 417, 418, 419, 420, 421] (by decide +kernel) (by decide +kernel)
set_option maxRecDepth 20000 in
theorem gL_law_X5_undo : GoodIn wsL_law (wsV RL 85 RX5 yX5_undo wsX5_undo) := goodIn_app (goodIn_of _ (by decide +kernel)) ggL_law_X5_undo
theorem gp_law_strikes_0 : GoodIn wsL_law [.code yL_strikes cL_strikes 12 (some .boolean)] := goodIn_r _ [380] (by decide +kernel) (by decide +kernel)
set_option maxRecDepth 20000 in
theorem gp_law_strikes_wsL_strikes_r1 : GoodIn wsL_law wsL_strikes_r1 := goodIn_r _ [381, 382, 383, 2, 384, 13, 373, 374, 375, 12, 376, 148, 149, 365, 366, 367, 368, 40, 184, 145, 146, 147, 48, 250] (by decide +kernel) (by decide +kernel)
set_option maxRecDepth 20000 in
theorem gp_law_strikes_wsL_strikes_r2 : GoodIn wsL_law wsL_strikes_r2 := goodIn_r _ [251, 252, 253, 46, 385, 386, 387, 388, 15, 389, 208, 209, 210, 38, 211, 212, 213, 214, 39, 41, 42, 43, 44, 45] (by decide +kernel) (by decide +kernel)
set_option maxRecDepth 20000 in
theorem gp_law_strikes_wsL_strikes_r3 : GoodIn wsL_law wsL_strikes_r3 := goodIn_r _ [47, 49, 50, 377, 260, 261, 262, 243, 244, 245, 246, 263, 264, 265, 266, 267, 268, 269, 270, 271, 272, 273, 274, 275] (by decide +kernel) (by decide +kernel)
set_option maxRecDepth 20000 in
theorem gp_law_strikes_wsL_strikes_r4 : GoodIn wsL_law wsL_strikes_r4 := goodIn_r _ [276, 277, 278, 279, 280, 281, 282, 283, 284, 285, 286, 287, 288, 289, 390, 391, 392, 393, 188, 189, 81, 190, 191, 192] (by decide +kernel) (by decide +kernel)
set_option maxRecDepth 20000 in
theorem gp_law_strikes_wsL_strikes_r5 : GoodIn wsL_law wsL_strikes_r5 := goodIn_r _ [83, 84, 85, 86, 87, 88, 89, 19, 90, 23, 91, 92, 93, 94, 95, 96, 97, 98, 99, 100, 101, 102, 103, 104] (by decide +kernel) (by decide +kernel)
set_option maxRecDepth 20000 in
theorem gp_law_strikes_wsL_strikes_r6 : GoodIn wsL_law wsL_strikes_r6 := goodIn_r _ [105, 106, 107, 108, 109, 110, 111, 112, 113, 114, 115, 116, 117, 118, 119, 132, 133, 134, 135, 136, 137, 138, 139, 140] (by decide +kernel) (by decide +kernel)
set_option maxRecDepth 20000 in
theorem gp_law_strikes_wsL_strikes_r7 : GoodIn wsL_law wsL_strikes_r7 := goodIn_r _ [141, 142, 143, 144, 150, 151, 152, 153, 154, 155, 156, 157, 158, 159, 160, 161, 162, 163, 164, 369, 370, 371, 372, 199] (by decide +kernel) (by decide +kernel)
set_option maxRecDepth 20000 in
theorem gp_law_strikes_wsL_strikes_r8 : GoodIn wsL_law wsL_strikes_r8 := goodIn_r _ [200, 201, 18, 202, 57, 56, 203, 204, 205, 206, 207, 169, 170, 171, 37, 172, 173, 174, 175, 176, 177, 178, 179, 180] (by decide +kernel) (by decide +kernel)
set_option maxRecDepth 20000 in
theorem gp_law_strikes_wsL_strikes_r9 : GoodIn wsL_law wsL_strikes_r9 := goodIn_r _ [181, 182, 183, 290, 291, 292, 293, 294, 295, 296, 297] (by decide +kernel) (by decide +kernel)
set_option maxRecDepth 20000 in
theorem gp_law_strikes_wsX50 : GoodIn wsL_law wsX50 := goodIn_r _ [401, 402, 403, 404, 405, 406, 407, 408] (by decide +kernel) (by decide +kernel)
set_option maxRecDepth 20000 in
theorem gp_law_strikes_wsX40 : GoodIn wsL_law wsX40 := goodIn_r _ [409, 410, 411, 412, 413, 414, 415, 416, 417, 418, 419, 420, 421] (by decide +kernel) (by decide +kernel)
set_option maxRecDepth 20000 in
theorem gp_law_strikes_wsX10 : GoodIn wsL_law wsX10 := goodIn_r _ [422, 423] (by decide +kernel) (by decide +kernel)
set_option maxRecDepth 20000 in
theorem gp_law_strikes_wsX30 : GoodIn wsL_law wsX30 := goodIn_r _ [424, 425, 426, 427, 428, 429, 430] (by decide +kernel) (by decide +kernel)
theorem ggL_law_L_strikes : GoodIn wsL_law wsL_strikes := goodIn_cons1 gp_law_strikes_0 (goodIn_app (goodIn_app (goodIn_app (goodIn_app (goodIn_app gp_law_strikes_wsL_strikes_r1 (goodIn_app gp_law_strikes_wsL_strikes_r2 (goodIn_app gp_law_strikes_wsL_strikes_r3 (goodIn_app gp_law_strikes_wsL_strikes_r4 (goodIn_app gp_law_strikes_wsL_strikes_r5 (goodIn_app gp_law_strikes_wsL_strikes_r6 (goodIn_app gp_law_strikes_wsL_strikes_r7 (goodIn_app gp_law_strikes_wsL_strikes_r8 (gp_law_strikes_wsL_strikes_r9))))))))) gp_law_strikes_wsX50) gp_law_strikes_wsX40) gp_law_strikes_wsX10) gp_law_strikes_wsX30)
set_option maxRecDepth 20000 in
theorem gL_law_L_strikes : GoodIn wsL_law (va_wsS RL 108 yL_strikes wsL_strikes) := goodIn_app (goodIn_of _ (by decide +kernel)) ggL_law_L_strikes
theorem gp_law_fights_0 : GoodIn wsL_law [.code yL_fights cL_fights 11 (some .boolean)] := goodIn_r _ [396] (by decide +kernel) (by decide +kernel)
set_option maxRecDepth 20000 in
theorem gp_law_fights_wsL_fights_r1 : GoodIn wsL_law wsL_fights_r1 := goodIn_r _ [397, 398, 399, 2, 400, 13, 15, 27, 142, 360, 361, 362, 12, 363, 364, 148, 149, 365, 366, 367, 368, 40, 184, 145] (by decide +kernel) (by decide +kernel)
set_option maxRecDepth 20000 in
theorem gp_law_fights_wsL_fights_r2 : GoodIn wsL_law wsL_fights_r2 := goodIn_r _ [146, 147, 48, 250, 251, 252, 253, 46, 389, 208, 209, 210, 38, 211, 212, 213, 214, 39, 41, 42, 43, 44, 45, 47] (by decide +kernel) (by decide +kernel)
set_option maxRecDepth 20000 in
theorem gp_law_fights_wsL_fights_r3 : GoodIn wsL_law wsL_fights_r3 := goodIn_r _ [49, 50, 215, 216, 217, 26, 218, 73, 239, 240, 241, 242, 243, 244, 245, 246, 247, 248, 249, 254, 255, 256, 257, 258] (by decide +kernel) (by decide +kernel)
set_option maxRecDepth 20000 in
theorem gp_law_fights_wsL_fights_r4 : GoodIn wsL_law wsL_fights_r4 := goodIn_r _ [231, 232, 233, 234, 259, 260, 261, 262, 263, 264, 265, 266, 267, 268, 269, 270, 271, 272, 273, 274, 275, 276, 277, 278] (by decide +kernel) (by decide +kernel)
set_option maxRecDepth 20000 in
theorem gp_law_fights_wsL_fights_r5 : GoodIn wsL_law wsL_fights_r5 := goodIn_r _ [279, 280, 281, 282, 283, 284, 285, 286, 287, 288, 289, 188, 189, 81, 190, 191, 192, 83, 84, 85, 86, 87, 88, 89] (by decide +kernel) (by decide +kernel)
set_option maxRecDepth 20000 in
theorem gp_law_fights_wsL_fights_r6 : GoodIn wsL_law wsL_fights_r6 := goodIn_r _ [19, 90, 23, 91, 92, 93, 94, 95, 96, 97, 98, 99, 100, 101, 102, 103, 104, 105, 106, 107, 108, 109, 110, 111] (by decide +kernel) (by decide +kernel)
set_option maxRecDepth 20000 in
theorem gp_law_fights_wsL_fights_r7 : GoodIn wsL_law wsL_fights_r7 := goodIn_r _ [112, 113, 114, 115, 116, 117, 118, 119, 132, 133, 134, 135, 136, 137, 138, 139, 140, 141, 143, 144, 150, 151, 152, 153] (by decide +kernel) (by decide +kernel)
set_option maxRecDepth 20000 in
theorem gp_law_fights_wsL_fights_r8 : GoodIn wsL_law wsL_fights_r8 := goodIn_r _ [154, 155, 156, 157, 158, 159, 160, 161, 162, 163, 164, 356, 357, 358, 359, 199, 200, 201, 18, 202, 57, 56, 203, 204] (by decide +kernel) (by decide +kernel)
set_option maxRecDepth 20000 in
theorem gp_law_fights_wsL_fights_r9 : GoodIn wsL_law wsL_fights_r9 := goodIn_r _ [205, 206, 207, 169, 170, 171, 37, 172, 173, 174, 175, 176, 177, 178, 179, 180, 181, 182, 183, 290, 291, 292, 293, 294] (by decide +kernel) (by decide +kernel)
set_option maxRecDepth 20000 in
theorem gp_law_fights_wsL_fights_r10 : GoodIn wsL_law wsL_fights_r10 := goodIn_r _ [295, 296, 297] (by decide +kernel) (by decide +kernel)
set_option maxRecDepth 20000 in
theorem gp_law_fights_wsX50 : GoodIn wsL_law wsX50 := goodIn_r _ [401, 402, 403, 404, 405, 406, 407, 408] (by decide +kernel) (by decide +kernel)
set_option maxRecDepth 20000 in
theorem gp_law_fights_wsX40 : GoodIn wsL_law wsX40 := goodIn_r _ [409, 410, 411, 412, 413, 414, 415, 416, 417, 418, 419, 420, 421] (by decide +kernel) (by decide +kernel)
set_option maxRecDepth 20000 in
theorem gp_law_fights_wsX00 : GoodIn wsL_law wsX00 := goodIn_r _ [431] (by decide +kernel) (by decide +kernel)
set_option maxRecDepth 20000 in
theorem gp_law_fights_wsX10 : GoodIn wsL_law wsX10 := goodIn_r _ [422, 423] (by decide +kernel) (by decide +kernel)
set_option maxRecDepth 20000 in
theorem gp_law_fights_wsX30 : GoodIn wsL_law wsX30 := goodIn_r _ [424, 425, 426, 427, 428, 429, 430] (by decide +kernel) (by decide +kernel)
theorem ggL_law_L_fights : GoodIn wsL_law wsL_fights := goodIn_cons1 gp_law_fights_0 (goodIn_app (goodIn_app (goodIn_app (goodIn_app (goodIn_app (goodIn_app gp_law_fights_wsL_fights_r1 (goodIn_app gp_law_fights_wsL_fights_r2 (goodIn_app gp_law_fights_wsL_fights_r3 (goodIn_app gp_law_fights_wsL_fights_r4 (goodIn_app gp_law_fights_wsL_fights_r5 (goodIn_app gp_law_fights_wsL_fights_r6 (goodIn_app gp_law_fights_wsL_fights_r7 (goodIn_app gp_law_fights_wsL_fights_r8 (goodIn_app gp_law_fights_wsL_fights_r9 (gp_law_fights_wsL_fights_r10)))))))))) gp_law_fights_wsX50) gp_law_fights_wsX40) gp_law_fights_wsX00) gp_law_fights_wsX10) gp_law_fights_wsX30)
set_option maxRecDepth 20000 in
theorem gL_law_L_fights : GoodIn wsL_law (va_wsS RL 112 yL_fights wsL_fights) := goodIn_app (goodIn_of _ (by decide +kernel)) ggL_law_L_fights
theorem dL_law_0 : decode cL_law 0 = .ok (.new 17, 3) := by decide +kernel
theorem dL_law_3 : decode cL_law 3 = .ok (.dup, 1) := by decide +kernel
theorem dL_law_4 : decode cL_law 4 = .ok (.invokespecial 95, 3) := by decide +kernel
theorem dL_law_7 : decode cL_law 7 = .ok (.astore_n 1, 1) := by decide +kernel
theorem dL_law_8 : decode cL_law 8 = .ok (.aload_n 1, 1) := by decide +kernel
theorem dL_law_9 : decode cL_law 9 = .ok (.invokestatic 92, 3) := by decide +kernel
theorem dL_law_12 : decode cL_law 12 = .ok (.ifCond .eq 15, 3) := by decide +kernel
theorem dL_law_15 : decode cL_law 15 = .ok (.aload_n 1, 1) := by decide +kernel
theorem dL_law_16 : decode cL_law 16 = .ok (.iconst 5, 1) := by decide +kernel
theorem dL_law_17 : decode cL_law 17 = .ok (.invokestatic 96, 3) := by decide +kernel
theorem dL_law_20 : decode cL_law 20 = .ok (.ifCond .eq 7, 3) := by decide +kernel
theorem dL_law_23 : decode cL_law 23 = .ok (.iconst 1, 1) := by decide +kernel
theorem dL_law_24 : decode cL_law 24 = .ok (.goto 4, 3) := by decide +kernel
theorem dL_law_27 : decode cL_law 27 = .ok (.iconst 0, 1) := by decide +kernel
theorem dL_law_28 : decode cL_law 28 = .ok (.istore_n 2, 1) := by decide +kernel
theorem dL_law_29 : decode cL_law 29 = .ok (.iconst 0, 1) := by decide +kernel
theorem dL_law_30 : decode cL_law 30 = .ok (.istore_n 3, 1) := by decide +kernel
theorem dL_law_31 : decode cL_law 31 = .ok (.iload_n 3, 1) := by decide +kernel
theorem dL_law_32 : decode cL_law 32 = .ok (.bipush 48, 2) := by decide +kernel
theorem dL_law_34 : decode cL_law 34 = .ok (.if_icmp .ge 375, 3) := by decide +kernel
theorem dL_law_37 : decode cL_law 37 = .ok (.iload_n 2, 1) := by decide +kernel
theorem dL_law_38 : decode cL_law 38 = .ok (.ifCond .eq 371, 3) := by decide +kernel
theorem dL_law_41 : decode cL_law 41 = .ok (.aload_n 0, 1) := by decide +kernel
theorem dL_law_42 : decode cL_law 42 = .ok (.iconst 2, 1) := by decide +kernel
theorem dL_law_43 : decode cL_law 43 = .ok (.iload_n 3, 1) := by decide +kernel
theorem dL_law_44 : decode cL_law 44 = .ok (.imul, 1) := by decide +kernel
theorem dL_law_45 : decode cL_law 45 = .ok (.invokestatic 100, 3) := by decide +kernel
theorem dL_law_48 : decode cL_law 48 = .ok (.istore 4, 2) := by decide +kernel
theorem dL_law_50 : decode cL_law 50 = .ok (.aload_n 0, 1) := by decide +kernel
theorem dL_law_51 : decode cL_law 51 = .ok (.iconst 2, 1) := by decide +kernel
theorem dL_law_52 : decode cL_law 52 = .ok (.iload_n 3, 1) := by decide +kernel
theorem dL_law_53 : decode cL_law 53 = .ok (.imul, 1) := by decide +kernel
theorem dL_law_54 : decode cL_law 54 = .ok (.iconst 1, 1) := by decide +kernel
theorem dL_law_55 : decode cL_law 55 = .ok (.iadd, 1) := by decide +kernel
theorem dL_law_56 : decode cL_law 56 = .ok (.invokestatic 100, 3) := by decide +kernel
theorem dL_law_59 : decode cL_law 59 = .ok (.istore 5, 2) := by decide +kernel
theorem dL_law_61 : decode cL_law 61 = .ok (.aload_n 1, 1) := by decide +kernel
theorem dL_law_62 : decode cL_law 62 = .ok (.bipush 10, 2) := by decide +kernel
theorem dL_law_64 : decode cL_law 64 = .ok (.invokevirtual 48, 3) := by decide +kernel
theorem dL_law_67 : decode cL_law 67 = .ok (.istore 6, 2) := by decide +kernel
theorem dL_law_69 : decode cL_law 69 = .ok (.aload_n 1, 1) := by decide +kernel
theorem dL_law_70 : decode cL_law 70 = .ok (.invokestatic 81, 3) := by decide +kernel
theorem dL_law_73 : decode cL_law 73 = .ok (.lstore 7, 2) := by decide +kernel
theorem dL_law_75 : decode cL_law 75 = .ok (.iload_n 3, 1) := by decide +kernel
theorem dL_law_76 : decode cL_law 76 = .ok (.bipush 7, 2) := by decide +kernel
theorem dL_law_78 : decode cL_law 78 = .ok (.if_icmp .le 30, 3) := by decide +kernel
theorem dL_law_81 : decode cL_law 81 = .ok (.iload 4, 2) := by decide +kernel
theorem dL_law_83 : decode cL_law 83 = .ok (.bipush 17, 2) := by decide +kernel
theorem dL_law_85 : decode cL_law 85 = .ok (.invokestatic 10, 3) := by decide +kernel
theorem dL_law_88 : decode cL_law 88 = .ok (.iconst 3, 1) := by decide +kernel
theorem dL_law_89 : decode cL_law 89 = .ok (.if_icmp .eq 15, 3) := by decide +kernel
theorem dL_law_92 : decode cL_law 92 = .ok (.iload 4, 2) := by decide +kernel
theorem dL_law_94 : decode cL_law 94 = .ok (.bipush 17, 2) := by decide +kernel
theorem dL_law_96 : decode cL_law 96 = .ok (.invokestatic 10, 3) := by decide +kernel
theorem dL_law_99 : decode cL_law 99 = .ok (.bipush 8, 2) := by decide +kernel
theorem dL_law_101 : decode cL_law 101 = .ok (.if_icmp .ne 7, 3) := by decide +kernel
theorem dL_law_104 : decode cL_law 104 = .ok (.iconst 1, 1) := by decide +kernel
theorem dL_law_105 : decode cL_law 105 = .ok (.goto 4, 3) := by decide +kernel
theorem dL_law_108 : decode cL_law 108 = .ok (.iconst 0, 1) := by decide +kernel
theorem dL_law_109 : decode cL_law 109 = .ok (.istore 9, 2) := by decide +kernel
theorem dL_law_111 : decode cL_law 111 = .ok (.iload_n 3, 1) := by decide +kernel
theorem dL_law_112 : decode cL_law 112 = .ok (.bipush 8, 2) := by decide +kernel
theorem dL_law_114 : decode cL_law 114 = .ok (.if_icmp .ge 22, 3) := by decide +kernel
theorem dL_law_117 : decode cL_law 117 = .ok (.aload_n 1, 1) := by decide +kernel
theorem dL_law_118 : decode cL_law 118 = .ok (.iload_n 3, 1) := by decide +kernel
theorem dL_law_119 : decode cL_law 119 = .ok (.iconst 4, 1) := by decide +kernel
theorem dL_law_120 : decode cL_law 120 = .ok (.irem, 1) := by decide +kernel
theorem dL_law_121 : decode cL_law 121 = .ok (.iconst 1, 1) := by decide +kernel
theorem dL_law_122 : decode cL_law 122 = .ok (.iload 5, 2) := by decide +kernel
theorem dL_law_124 : decode cL_law 124 = .ok (.bipush 9, 2) := by decide +kernel
theorem dL_law_126 : decode cL_law 126 = .ok (.invokestatic 10, 3) := by decide +kernel
theorem dL_law_129 : decode cL_law 129 = .ok (.iadd, 1) := by decide +kernel
theorem dL_law_130 : decode cL_law 130 = .ok (.invokevirtual 16, 3) := by decide +kernel
theorem dL_law_133 : decode cL_law 133 = .ok (.goto 11, 3) := by decide +kernel
theorem dL_law_136 : decode cL_law 136 = .ok (.aload_n 1, 1) := by decide +kernel
theorem dL_law_137 : decode cL_law 137 = .ok (.iload 4, 2) := by decide +kernel
theorem dL_law_139 : decode cL_law 139 = .ok (.iload 5, 2) := by decide +kernel
theorem dL_law_141 : decode cL_law 141 = .ok (.invokestatic 104, 3) := by decide +kernel
theorem dL_law_144 : decode cL_law 144 = .ok (.istore 10, 2) := by decide +kernel
theorem dL_law_146 : decode cL_law 146 = .ok (.iload 10, 2) := by decide +kernel
theorem dL_law_148 : decode cL_law 148 = .ok (.ifCond .ge 45, 3) := by decide +kernel
theorem dL_law_151 : decode cL_law 151 = .ok (.iload 9, 2) := by decide +kernel
theorem dL_law_153 : decode cL_law 153 = .ok (.ifCond .eq 10, 3) := by decide +kernel
theorem dL_law_156 : decode cL_law 156 = .ok (.iload 10, 2) := by decide +kernel
theorem dL_law_158 : decode cL_law 158 = .ok (.bipush (-5), 2) := by decide +kernel
theorem dL_law_160 : decode cL_law 160 = .ok (.if_icmp .eq 33, 3) := by decide +kernel
theorem dL_law_163 : decode cL_law 163 = .ok (.aload_n 1, 1) := by decide +kernel
theorem dL_law_164 : decode cL_law 164 = .ok (.bipush 10, 2) := by decide +kernel
theorem dL_law_166 : decode cL_law 166 = .ok (.invokevirtual 48, 3) := by decide +kernel
theorem dL_law_169 : decode cL_law 169 = .ok (.iload 6, 2) := by decide +kernel
theorem dL_law_171 : decode cL_law 171 = .ok (.if_icmp .ne 17, 3) := by decide +kernel
theorem dL_law_174 : decode cL_law 174 = .ok (.aload_n 1, 1) := by decide +kernel
theorem dL_law_175 : decode cL_law 175 = .ok (.invokestatic 81, 3) := by decide +kernel
theorem dL_law_178 : decode cL_law 178 = .ok (.lload 7, 2) := by decide +kernel
theorem dL_law_180 : decode cL_law 180 = .ok (.lcmp, 1) := by decide +kernel
theorem dL_law_181 : decode cL_law 181 = .ok (.ifCond .ne 7, 3) := by decide +kernel
theorem dL_law_184 : decode cL_law 184 = .ok (.iconst 1, 1) := by decide +kernel
theorem dL_law_185 : decode cL_law 185 = .ok (.goto 4, 3) := by decide +kernel
theorem dL_law_188 : decode cL_law 188 = .ok (.iconst 0, 1) := by decide +kernel
theorem dL_law_189 : decode cL_law 189 = .ok (.istore_n 2, 1) := by decide +kernel
theorem dL_law_190 : decode cL_law 190 = .ok (.goto 101, 3) := by decide +kernel
theorem dL_law_193 : decode cL_law 193 = .ok (.aload_n 1, 1) := by decide +kernel
theorem dL_law_194 : decode cL_law 194 = .ok (.bipush 10, 2) := by decide +kernel
theorem dL_law_196 : decode cL_law 196 = .ok (.invokevirtual 48, 3) := by decide +kernel
theorem dL_law_199 : decode cL_law 199 = .ok (.iload 6, 2) := by decide +kernel
theorem dL_law_201 : decode cL_law 201 = .ok (.iconst 5, 1) := by decide +kernel
theorem dL_law_202 : decode cL_law 202 = .ok (.if_icmp .ge 10, 3) := by decide +kernel
theorem dL_law_205 : decode cL_law 205 = .ok (.iload 6, 2) := by decide +kernel
theorem dL_law_207 : decode cL_law 207 = .ok (.iconst 1, 1) := by decide +kernel
theorem dL_law_208 : decode cL_law 208 = .ok (.iadd, 1) := by decide +kernel
theorem dL_law_209 : decode cL_law 209 = .ok (.goto 4, 3) := by decide +kernel
theorem dL_law_212 : decode cL_law 212 = .ok (.iconst 5, 1) := by decide +kernel
theorem dL_law_213 : decode cL_law 213 = .ok (.if_icmp .ne 7, 3) := by decide +kernel
theorem dL_law_216 : decode cL_law 216 = .ok (.iconst 1, 1) := by decide +kernel
theorem dL_law_217 : decode cL_law 217 = .ok (.goto 4, 3) := by decide +kernel
theorem dL_law_220 : decode cL_law 220 = .ok (.iconst 0, 1) := by decide +kernel
theorem dL_law_221 : decode cL_law 221 = .ok (.istore_n 2, 1) := by decide +kernel
theorem dL_law_222 : decode cL_law 222 = .ok (.iload_n 2, 1) := by decide +kernel
theorem dL_law_223 : decode cL_law 223 = .ok (.ifCond .eq 68, 3) := by decide +kernel
theorem dL_law_226 : decode cL_law 226 = .ok (.iload_n 3, 1) := by decide +kernel
theorem dL_law_227 : decode cL_law 227 = .ok (.bipush 7, 2) := by decide +kernel
theorem dL_law_229 : decode cL_law 229 = .ok (.if_icmp .le 62, 3) := by decide +kernel
theorem dL_law_232 : decode cL_law 232 = .ok (.iload 5, 2) := by decide +kernel
theorem dL_law_234 : decode cL_law 234 = .ok (.iconst 5, 1) := by decide +kernel
theorem dL_law_235 : decode cL_law 235 = .ok (.ishr, 1) := by decide +kernel
theorem dL_law_236 : decode cL_law 236 = .ok (.iconst 4, 1) := by decide +kernel
theorem dL_law_237 : decode cL_law 237 = .ok (.invokestatic 10, 3) := by decide +kernel
theorem dL_law_240 : decode cL_law 240 = .ok (.ifCond .ne 51, 3) := by decide +kernel
theorem dL_law_243 : decode cL_law 243 = .ok (.aload_n 1, 1) := by decide +kernel
theorem dL_law_244 : decode cL_law 244 = .ok (.invokevirtual 85, 3) := by decide +kernel
theorem dL_law_247 : decode cL_law 247 = .ok (.iload 6, 2) := by decide +kernel
theorem dL_law_249 : decode cL_law 249 = .ok (.iconst 5, 1) := by decide +kernel
theorem dL_law_250 : decode cL_law 250 = .ok (.if_icmp .ge 8, 3) := by decide +kernel
theorem dL_law_253 : decode cL_law 253 = .ok (.iload 6, 2) := by decide +kernel
theorem dL_law_255 : decode cL_law 255 = .ok (.goto 4, 3) := by decide +kernel
theorem dL_law_258 : decode cL_law 258 = .ok (.iconst 4, 1) := by decide +kernel
theorem dL_law_259 : decode cL_law 259 = .ok (.if_icmp .ne 30, 3) := by decide +kernel
theorem dL_law_262 : decode cL_law 262 = .ok (.aload_n 1, 1) := by decide +kernel
theorem dL_law_263 : decode cL_law 263 = .ok (.invokestatic 81, 3) := by decide +kernel
theorem dL_law_266 : decode cL_law 266 = .ok (.lload 7, 2) := by decide +kernel
theorem dL_law_268 : decode cL_law 268 = .ok (.lcmp, 1) := by decide +kernel
theorem dL_law_269 : decode cL_law 269 = .ok (.ifCond .ne 20, 3) := by decide +kernel
theorem dL_law_272 : decode cL_law 272 = .ok (.aload_n 1, 1) := by decide +kernel
theorem dL_law_273 : decode cL_law 273 = .ok (.iload 4, 2) := by decide +kernel
theorem dL_law_275 : decode cL_law 275 = .ok (.iload 5, 2) := by decide +kernel
theorem dL_law_277 : decode cL_law 277 = .ok (.invokestatic 104, 3) := by decide +kernel
theorem dL_law_280 : decode cL_law 280 = .ok (.iload 10, 2) := by decide +kernel
theorem dL_law_282 : decode cL_law 282 = .ok (.if_icmp .ne 7, 3) := by decide +kernel
theorem dL_law_285 : decode cL_law 285 = .ok (.iconst 1, 1) := by decide +kernel
theorem dL_law_286 : decode cL_law 286 = .ok (.goto 4, 3) := by decide +kernel
theorem dL_law_289 : decode cL_law 289 = .ok (.iconst 0, 1) := by decide +kernel
theorem dL_law_290 : decode cL_law 290 = .ok (.istore_n 2, 1) := by decide +kernel
theorem dL_law_291 : decode cL_law 291 = .ok (.iload_n 2, 1) := by decide +kernel
theorem dL_law_292 : decode cL_law 292 = .ok (.ifCond .eq 109, 3) := by decide +kernel
theorem dL_law_295 : decode cL_law 295 = .ok (.aload_n 1, 1) := by decide +kernel
theorem dL_law_296 : decode cL_law 296 = .ok (.invokestatic 92, 3) := by decide +kernel
theorem dL_law_299 : decode cL_law 299 = .ok (.ifCond .eq 102, 3) := by decide +kernel
theorem dL_law_302 : decode cL_law 302 = .ok (.aload_n 1, 1) := by decide +kernel
theorem dL_law_303 : decode cL_law 303 = .ok (.iload 4, 2) := by decide +kernel
theorem dL_law_305 : decode cL_law 305 = .ok (.iconst 5, 1) := by decide +kernel
theorem dL_law_306 : decode cL_law 306 = .ok (.ishr, 1) := by decide +kernel
theorem dL_law_307 : decode cL_law 307 = .ok (.bipush 9, 2) := by decide +kernel
theorem dL_law_309 : decode cL_law 309 = .ok (.invokestatic 10, 3) := by decide +kernel
theorem dL_law_312 : decode cL_law 312 = .ok (.iload 5, 2) := by decide +kernel
theorem dL_law_314 : decode cL_law 314 = .ok (.iconst 4, 1) := by decide +kernel
theorem dL_law_315 : decode cL_law 315 = .ok (.ishr, 1) := by decide +kernel
theorem dL_law_316 : decode cL_law 316 = .ok (.bipush 9, 2) := by decide +kernel
theorem dL_law_318 : decode cL_law 318 = .ok (.invokestatic 10, 3) := by decide +kernel
theorem dL_law_321 : decode cL_law 321 = .ok (.iconst 1, 1) := by decide +kernel
theorem dL_law_322 : decode cL_law 322 = .ok (.iload 4, 2) := by decide +kernel
theorem dL_law_324 : decode cL_law 324 = .ok (.bipush 9, 2) := by decide +kernel
theorem dL_law_326 : decode cL_law 326 = .ok (.ishr, 1) := by decide +kernel
theorem dL_law_327 : decode cL_law 327 = .ok (.bipush 9, 2) := by decide +kernel
theorem dL_law_329 : decode cL_law 329 = .ok (.invokestatic 10, 3) := by decide +kernel
theorem dL_law_332 : decode cL_law 332 = .ok (.iadd, 1) := by decide +kernel
theorem dL_law_333 : decode cL_law 333 = .ok (.invokestatic 108, 3) := by decide +kernel
theorem dL_law_336 : decode cL_law 336 = .ok (.ifCond .eq 65, 3) := by decide +kernel
theorem dL_law_339 : decode cL_law 339 = .ok (.aload_n 1, 1) := by decide +kernel
theorem dL_law_340 : decode cL_law 340 = .ok (.iload 5, 2) := by decide +kernel
theorem dL_law_342 : decode cL_law 342 = .ok (.bipush 6, 2) := by decide +kernel
theorem dL_law_344 : decode cL_law 344 = .ok (.ishr, 1) := by decide +kernel
theorem dL_law_345 : decode cL_law 345 = .ok (.bipush 9, 2) := by decide +kernel
theorem dL_law_347 : decode cL_law 347 = .ok (.invokestatic 10, 3) := by decide +kernel
theorem dL_law_350 : decode cL_law 350 = .ok (.iload 4, 2) := by decide +kernel
theorem dL_law_352 : decode cL_law 352 = .ok (.bipush 7, 2) := by decide +kernel
theorem dL_law_354 : decode cL_law 354 = .ok (.ishr, 1) := by decide +kernel
theorem dL_law_355 : decode cL_law 355 = .ok (.bipush 9, 2) := by decide +kernel
theorem dL_law_357 : decode cL_law 357 = .ok (.invokestatic 10, 3) := by decide +kernel
theorem dL_law_360 : decode cL_law 360 = .ok (.iload 5, 2) := by decide +kernel
theorem dL_law_362 : decode cL_law 362 = .ok (.iconst 2, 1) := by decide +kernel
theorem dL_law_363 : decode cL_law 363 = .ok (.ishr, 1) := by decide +kernel
theorem dL_law_364 : decode cL_law 364 = .ok (.ldc 37, 2) := by decide +kernel
theorem dL_law_366 : decode cL_law 366 = .ok (.invokestatic 10, 3) := by decide +kernel
theorem dL_law_369 : decode cL_law 369 = .ok (.invokestatic 112, 3) := by decide +kernel
theorem dL_law_372 : decode cL_law 372 = .ok (.ifCond .eq 29, 3) := by decide +kernel
theorem dL_law_375 : decode cL_law 375 = .ok (.iload_n 3, 1) := by decide +kernel
theorem dL_law_376 : decode cL_law 376 = .ok (.iconst 5, 1) := by decide +kernel
theorem dL_law_377 : decode cL_law 377 = .ok (.irem, 1) := by decide +kernel
theorem dL_law_378 : decode cL_law 378 = .ok (.ifCond .gt 19, 3) := by decide +kernel
theorem dL_law_381 : decode cL_law 381 = .ok (.aload_n 1, 1) := by decide +kernel
theorem dL_law_382 : decode cL_law 382 = .ok (.iload 4, 2) := by decide +kernel
theorem dL_law_384 : decode cL_law 384 = .ok (.iconst 3, 1) := by decide +kernel
theorem dL_law_385 : decode cL_law 385 = .ok (.ishr, 1) := by decide +kernel
theorem dL_law_386 : decode cL_law 386 = .ok (.ldc 37, 2) := by decide +kernel
theorem dL_law_388 : decode cL_law 388 = .ok (.invokestatic 10, 3) := by decide +kernel
theorem dL_law_391 : decode cL_law 391 = .ok (.invokestatic 96, 3) := by decide +kernel
theorem dL_law_394 : decode cL_law 394 = .ok (.ifCond .eq 7, 3) := by decide +kernel
theorem dL_law_397 : decode cL_law 397 = .ok (.iconst 1, 1) := by decide +kernel
theorem dL_law_398 : decode cL_law 398 = .ok (.goto 4, 3) := by decide +kernel
theorem dL_law_401 : decode cL_law 401 = .ok (.iconst 0, 1) := by decide +kernel
theorem dL_law_402 : decode cL_law 402 = .ok (.istore_n 2, 1) := by decide +kernel
theorem dL_law_403 : decode cL_law 403 = .ok (.iinc 3 1, 3) := by decide +kernel
theorem dL_law_406 : decode cL_law 406 = .ok (.goto (-375), 3) := by decide +kernel
theorem dL_law_409 : decode cL_law 409 = .ok (.iload_n 2, 1) := by decide +kernel
theorem dL_law_410 : decode cL_law 410 = .ok (.ireturn, 1) := by decide +kernel
abbrev vwCl : List vw_C := [(RX0, TX0, 1), (RX1, TX1, 2), (RX2, TX2, 2), (RX3, TX3, 7), (RX4, TX4, 13), (RX5, TX5, 8)]
end
section
/-! WORLDS AS MEMORIES. A world is a list of cells (block, place in the block), each with a shape that never changes and contents that are numbers: M block cell index. Refs in fields are fixed by the shape; a ref in an array of refs is kept as the number of the block that it names. -/
abbrev Mm : Type := Nat → Nat → Nat → Int32
abbrev Tm : Type := Nat → Nat → Int32
def wT (T : Tm) (a j : Nat) (v : Int32) : Tm := fun b => if b = a then upd (T a) j v else T b
def uM (M : Mm) (k : Nat) (T : Tm) : Mm := fun q => if q = k then T else M q
def wM (M : Mm) (k a j : Nat) (v : Int32) : Mm := uM M k (wT (M k) a j v)
theorem uM_same (M : Mm) (k : Nat) (T : Tm) : uM M k T k = T := by simp [uM]
theorem uM_ne (M : Mm) (k : Nat) (T : Tm) {q : Nat} (h : q ≠ k) : uM M k T q = M q := by simp [uM, h]
theorem uM_self (M : Mm) (k : Nat) : uM M k (M k) = M := by
  funext q
  by_cases h : q = k
  · subst h; simp [uM]
  · simp [uM, h]
theorem uM_uM (M : Mm) (k : Nat) (T T' : Tm) : uM (uM M k T) k T' = uM M k T' := by
  funext q
  by_cases h : q = k
  · subst h; simp [uM]
  · simp [uM, h]
theorem wM_uM (M : Mm) (k : Nat) (T : Tm) (a j : Nat) (v : Int32) : wM (uM M k T) k a j v = uM M k (wT T a j v) := by
  unfold wM
  rw [uM_same, uM_uM]
theorem wT_same (T : Tm) (a j : Nat) (v : Int32) : wT T a j v a = upd (T a) j v := by simp [wT]
theorem wT_ne (T : Tm) {a b : Nat} (j : Nat) (v : Int32) (h : b ≠ a) : wT T a j v b = T b := by simp [wT, h]
/-- shapes: (0, kind, fields), (1, n, _) an int row, (2, n, _) a char row, (3, n, _) a row of refs to State blocks -/
abbrev Sh : Type := Nat × Nat × List (Option (Nat × Nat))
abbrev Ly : Type := List (Nat × Nat) × (Nat → Nat → Sh)
/-- where a world lies: the numbers and slots of the kinds of objects and of rows, the addresses -/
abbrev Wd : Type := va_G × (Nat → ClassId) × (Nat → Nat → Nat)
abbrev th (ω : Wd) (k a : Nat) : Nat := ω.2.2 k a
def fV (ω : Wd) (f : Nat → Int32) (fs : List (Option (Nat × Nat))) : List Value := (List.range fs.length).map (fun j => match fs.getD j none with
  | some q => Value.ref (th ω q.1 q.2)
  | none => Value.int (f j))
def cE (ω : Wd) (sh : Sh) (f : Nat → Int32) : va_E := match sh.1 with
  | 0 => .inr (sh.2.1, fV ω f sh.2.2)
  | 1 => .inl (ω.2.1 0, sh.2.1, .inl f)
  | 2 => .inl (ω.2.1 1, sh.2.1, .inl f)
  | _ => .inl (ω.2.1 2, sh.2.1, .inr (.inr (.inr (.inr (fun j => some (th ω (f j).toNatClampNeg 0))))))
def wW (ω : Wd) (L : Ly) (M : Mm) : va_W := L.1.map (fun q => (th ω q.1 q.2, cE ω (L.2 q.1 q.2) (M q.1 q.2)))
abbrev tyW (ω : Wd) : List (ClassId × FieldType) := [(ω.2.1 0, .int), (ω.2.1 1, .char), (ω.2.1 2, .object RX4)]
abbrev inL (L : Ly) (k a : Nat) (sh : Sh) : Prop := (k, a) ∈ L.1 ∧ L.2 k a = sh
theorem wW_get {ω : Wd} {L : Ly} {M : Mm} {k a : Nat} {sh : Sh} (h : inL L k a sh) : ∃ p : Nat, L.1[p]? = some (k, a) ∧ (wW ω L M)[p]? = some (th ω k a, cE ω sh (M k a)) := by
  obtain ⟨p, hp⟩ := List.getElem?_of_mem h.1
  refine ⟨p, hp, ?_⟩
  unfold wW
  rw [List.getElem?_map, hp]
  simp [h.2]
theorem nd_inj {α : Type} {l : List α} (hN : l.Nodup) {i j : Nat} {a : α} (hi : l[i]? = some a) (hj : l[j]? = some a) : i = j := by
  obtain ⟨hil, e1⟩ := List.getElem?_eq_some_iff.mp hi
  obtain ⟨hjl, e2⟩ := List.getElem?_eq_some_iff.mp hj
  exact (List.getElem_inj hN).mp (e1.trans e2.symm)
theorem wW_at (ω : Wd) (L : Ly) (M : Mm) (i : Nat) : (wW ω L M)[i]? = (L.1[i]?).map (fun q => (th ω q.1 q.2, cE ω (L.2 q.1 q.2) (M q.1 q.2))) := List.getElem?_map ..
abbrev wF (ω : Wd) (L : Ly) (M : Mm) (q : Nat × Nat) : Nat × va_E := (th ω q.1 q.2, cE ω (L.2 q.1 q.2) (M q.1 q.2))
theorem map_set {α β : Type} {l : List α} {F G : α → β} {p : Nat} {a : α} {b : β} (hN : l.Nodup) (hp : l[p]? = some a) (hb : b = G a) (h : ∀ q, q ≠ a → F q = G q) : (l.map F).set p b = l.map G := by
  apply List.ext_getElem?
  intro i
  by_cases hi : i = p
  · subst hi
    have hl : i < (l.map F).length := by
      rw [List.length_map]
      exact (List.getElem?_eq_some_iff.mp hp).1
    rw [List.getElem?_set_self hl, List.getElem?_map, hp, hb]
    rfl
  · rw [List.getElem?_set_ne (Ne.symm hi), List.getElem?_map, List.getElem?_map]
    cases hq : l[i]? with
    | none => rfl
    | some q =>
      have hne : q ≠ a := fun e => hi (nd_inj hN (hq.trans (congrArg some e)) hp)
      show some (F q) = some (G q)
      rw [h q hne]
theorem wF_off {ω : Wd} {L : Ly} {M M' : Mm} {k a : Nat} (h2 : ∀ k' a', ¬ (k' = k ∧ a' = a) → M' k' a' = M k' a') (q : Nat × Nat) (hq : q ≠ (k, a)) : wF ω L M q = wF ω L M' q := by
  have e : M' q.1 q.2 = M q.1 q.2 := h2 q.1 q.2 (fun e => hq (Prod.ext e.1 e.2))
  exact congrArg (fun f => (th ω q.1 q.2, cE ω (L.2 q.1 q.2) f)) e.symm
theorem wF_on {ω : Wd} {L : Ly} {M' : Mm} {k a : Nat} {sh : Sh} (h : L.2 k a = sh) {f : Nat → Int32} (h1 : M' k a = f) : (th ω k a, cE ω sh f) = wF ω L M' (k, a) := by
  subst h
  subst h1
  rfl
theorem wW_set {ω : Wd} {L : Ly} {M : Mm} {k a p : Nat} {sh : Sh} (hN : L.1.Nodup) (h : inL L k a sh) (hp : L.1[p]? = some (k, a)) (f : Nat → Int32) (M' : Mm) (h1 : M' k a = f) (h2 : ∀ k' a', ¬ (k' = k ∧ a' = a) → M' k' a' = M k' a') :
    (wW ω L M).set p (th ω k a, cE ω sh f) = wW ω L M' := map_set (F := wF ω L M) (G := wF ω L M') hN hp (wF_on h.2 h1) (wF_off h2)
theorem wM_at (M : Mm) (k a j : Nat) (v : Int32) : wM M k a j v k a = upd (M k a) j v := by unfold wM; rw [uM_same, wT_same]
theorem wM_off (M : Mm) (k a j : Nat) (v : Int32) (k' a' : Nat) (h : ¬ (k' = k ∧ a' = a)) : wM M k a j v k' a' = M k' a' := by
  unfold wM
  by_cases hk : k' = k
  · subst hk
    rw [uM_same, wT_ne _ _ _ (fun e => h ⟨rfl, e⟩)]
  · rw [uM_ne _ _ _ hk]
theorem fV_get {ω : Wd} {f : Nat → Int32} {fs : List (Option (Nat × Nat))} {j k a : Nat} (h : fs[j]? = some (some (k, a))) : (fV ω f fs)[j]? = some (.ref (th ω k a)) := by
  have hl := (List.getElem?_eq_some_iff.mp h).1
  unfold fV
  rw [List.getElem?_map, List.getElem?_range hl]
  simp [List.getD_eq_getElem?_getD, h]
theorem fV_geti {ω : Wd} {f : Nat → Int32} {fs : List (Option (Nat × Nat))} {j : Nat} (h : fs[j]? = some none) : (fV ω f fs)[j]? = some (.int (f j)) := by
  have hl := (List.getElem?_eq_some_iff.mp h).1
  unfold fV
  rw [List.getElem?_map, List.getElem?_range hl]
  simp [List.getD_eq_getElem?_getD, h]
theorem fV_len (ω : Wd) (f : Nat → Int32) (fs : List (Option (Nat × Nat))) : (fV ω f fs).length = fs.length := by simp [fV]
theorem fV_set {ω : Wd} {f : Nat → Int32} {fs : List (Option (Nat × Nat))} {j : Nat} (h : fs[j]? = some none) (v : Int32) : (fV ω f fs).set j (.int v) = fV ω (upd f j v) fs := by
  have hl := (List.getElem?_eq_some_iff.mp h).1
  apply List.ext_getElem?
  intro i
  by_cases hi : i = j
  · subst hi
    rw [List.getElem?_set_self (by rw [fV_len]; exact hl), fV_geti h]
    simp [upd]
  · rw [List.getElem?_set_ne (Ne.symm hi)]
    unfold fV
    rw [List.getElem?_map, List.getElem?_map]
    by_cases hil : i < fs.length
    · rw [List.getElem?_range hil]
      simp [upd, hi]
    · rw [List.getElem?_eq_none (by simp; omega)]
      rfl
/-- a frame's own fixed things: program, launch, env, room, start, method, arguments, frames below, method, code, end, own cells, locals, what is to be answered -/
abbrev Cx : Type := Program × Launch × Env × Room × State × MethodId × Array Value × List Frame × Method × Code × (State → Prop) × (Nat → Prop) × Nat × (Int32 × Mm)
def WC (ct : Nat) (Γ : Cx) (H : Heap) (locs : List Loc) (g : JFrame) : Prop := match Γ with
  | (p, l, e, R, s, m, args, below, meth, c, Q, _, _, _) => W p l e R s m args below meth c H locs ct (3 * ct) Q g
abbrev gR (Γ : Cx) : Room := Γ.2.2.2.1
abbrev gs (Γ : Cx) : State := Γ.2.2.2.2.1
abbrev gm (Γ : Cx) : MethodId := Γ.2.2.2.2.2.1
abbrev ga (Γ : Cx) : Array Value := Γ.2.2.2.2.2.2.1
abbrev gc (Γ : Cx) : Code := Γ.2.2.2.2.2.2.2.2.2.1
abbrev gA (Γ : Cx) : Nat → Prop := Γ.2.2.2.2.2.2.2.2.2.2.2.1
abbrev gN (Γ : Cx) : Nat := Γ.2.2.2.2.2.2.2.2.2.2.2.2.1
abbrev gT (Γ : Cx) : Int32 × Mm := Γ.2.2.2.2.2.2.2.2.2.2.2.2.2
/-- room for so many cells -/
def CtOk (Γ : Cx) (ct : Nat) : Prop := ct ≤ (gR Γ).cells ∧ 3 * ct ≤ (gR Γ).slots
theorem c0 (Γ : Cx) : CtOk Γ 0 := ⟨Nat.zero_le _, Nat.zero_le _⟩
theorem CtOk.mono {Γ : Cx} {a b : Nat} (h : CtOk Γ b) (hab : a ≤ b) : CtOk Γ a := ⟨Nat.le_trans hab h.1, Nat.le_trans (Nat.mul_le_mul_left 3 hab) h.2⟩
def Vr (ct : Nat) (Γ : Cx) (ω : Wd) (L : Ly) (pc : Nat) (lv : List (Nat × Value)) (st : List Value) (M : Mm) : Prop :=
  ∀ (ls : Array Slot) (H : Heap) (locs : List Loc), lv_has ls (gN Γ) lv → va_P ω.1 vwCl (wW ω L M) H → va_S (gA Γ) (gs Γ).heap H locs → WC ct Γ H locs (F0 (gm Γ) pc ls st)
/-- the addresses are apart -/
def Apart (ω : Wd) (L : Ly) : Prop := ∀ (i j : Nat) (p q : Nat × Nat), L.1[i]? = some p → L.1[j]? = some q → th ω p.1 p.2 = th ω q.1 q.2 → i = j
/-- the cells that a method of the world may change: the world's, and new ones -/
def aW (ω : Wd) (L : Ly) (sz : Nat) : Nat → Prop := fun q => (∃ i ∈ L.1, q = th ω i.1 i.2) ∨ sz ≤ q
theorem wD {ω : Wd} {L : Ly} {A : Nat → Prop} (h : Apart ω L ∧ ∀ q ∈ L.1, A (th ω q.1 q.2)) (M : Mm) : va_D A (wW ω L M) := by
  refine ⟨fun i j p q hi hj he => ?_, fun k q hk => ?_⟩
  · unfold wW at hi hj
    rw [List.getElem?_map] at hi hj
    cases h1 : L.1[i]? with
    | none => rw [h1] at hi; cases hi
    | some a =>
      cases h2 : L.1[j]? with
      | none => rw [h2] at hj; cases hj
      | some b =>
        rw [h1] at hi
        rw [h2] at hj
        cases hi
        cases hj
        exact h.1 i j a b h1 h2 he
  · unfold wW at hk
    rw [List.getElem?_map] at hk
    cases h1 : L.1[k]? with
    | none => rw [h1] at hk; cases hk
    | some a =>
      rw [h1] at hk
      cases hk
      exact h.2 a (List.mem_of_getElem? h1)
abbrev nstIdx : Nat := 58
/-- State's calls of its nest mate's isWithin -/
abbrev Nst (U : State) : Prop := va_Nw (.methodLinkNest RX4 nstIdx yX5_isWithin "ConkerHeirs") U
/-- what is known throughout a method -/
def CxOk (Γ : Cx) (l : Launch) (rm : Room) (nL : Nat) (ω : Wd) (L : Ly) (cc : ByteArray) (own : String) (ws : List Cond) : Prop :=
  Γ.2.1 = l ∧ gR Γ = rm ∧ gN Γ = nL ∧ Γ.1.tables.exec = Jvm.exec ∧ (gc Γ).code = cc ∧ (gc Γ).maxLocals = gN Γ ∧ (gs Γ).vm.findClass own = some (gm Γ).cls ∧ (∀ w ∈ ws, w.before (ga Γ) (gs Γ) = true) ∧ va_K ω.1 vwCl (tyW ω) (gs Γ) ∧ (Apart ω L ∧ ∀ q ∈ L.1, gA Γ (th ω q.1 q.2)) ∧ (∀ q, (gs Γ).heap.size ≤ q → gA Γ q) ∧ L.1.Nodup ∧ Nst (gs Γ)
/-- guards, calls, and what the machine computes -/
def gd {ρ : Type} (b : Bool) (X : Option ρ) : Option ρ := match b with
  | true => X
  | false => none
def nm {α ρ : Type} (e : α) (F : α → ρ) : ρ := F e
def bnd {σ τ : Type} (G : Option (Int32 × τ)) (F : Int32 → τ → Option (Int32 × σ)) : Option (Int32 × σ) := match G with
  | none => none
  | some (r, t) => F r t
theorem bnd_some {σ τ : Type} {G : Option (Int32 × τ)} {F : Int32 → τ → Option (Int32 × σ)} {q : Int32 × σ} (h : bnd G F = some q) : ∃ r t, G = some (r, t) ∧ F r t = some q := by
  match G, h with
  | none, h => cases h
  | some (r, t), h => exact ⟨r, t, rfl, h⟩
theorem bnd_eq {σ τ : Type} {G : Option (Int32 × τ)} {F : Int32 → τ → Option (Int32 × σ)} {r : Int32} {t : τ} (h : G = some (r, t)) : bnd G F = F r t := by rw [h]; rfl
def ib (i : Int32) (n : Nat) : Bool := !(decide (i < 0)) && decide (i.toNatClampNeg < n)
theorem ib_in {i : Int32} {n : Nat} (h : ib i n = true) : vp_in i n := by
  simp only [ib, Bool.and_eq_true, Bool.not_eq_true', decide_eq_true_eq, decide_eq_false_iff_not] at h
  intro hh
  rcases hh with h1 | h1
  · exact h.1 h1
  · omega
def nb (ty : FieldType) (v : Int32) : Bool := decide (vp_nar ty v = v)
def mn (a b : Int32) : Int32 := if b < a then b else a
def mx (a b : Int32) : Int32 := if a < b then b else a
/-- n places of f, from the first on, into the row a -/
def cT (T : Tm) (a : Nat) (f : Nat → Int32) (n : Nat) : Tm := fun b => if b = a then va_cpy f (T a) 0 0 n else T b
theorem cT_same (T : Tm) (a : Nat) (f : Nat → Int32) (n : Nat) : cT T a f n a = va_cpy f (T a) 0 0 n := by simp [cT]
theorem cT_ne (T : Tm) {a b : Nat} (f : Nat → Int32) (n : Nat) (h : b ≠ a) : cT T a f n b = T b := by simp [cT, h]
/-- a world without cells -/
def L00 : Ly := ([], fun _ _ => (0, 0, []))
def M00 : Mm := fun _ _ _ => 0
/-- the machine from here does what X says -/
def Gq {σ : Type} (ct : Nat) (Γ : Cx) (ω : Wd) (L : Ly) (em : σ → Mm) (pc : Nat) (lv : List (Nat × Value)) (st : List Value) (x : σ) (X : Option (Int32 × σ)) : Prop :=
  ∀ q : Int32 × σ, X = some q → gT Γ = (q.1, em q.2) → CtOk Γ ct → Vr ct Γ ω L pc lv st (em x)
/-- ends -/
def RetI (Γ : Cx) (ω : Wd) (L : Ly) (cc : ByteArray) (ty : FieldType) : Prop := ∀ (ct pc : Nat) (ls : Array Slot) (H : Heap) (locs : List Loc), CtOk Γ ct → decode cc pc = .ok (.ireturn, 1) → narrow ty (.int (gT Γ).1) = .int (gT Γ).1 → va_P ω.1 vwCl (wW ω L (gT Γ).2) H → va_S (gA Γ) (gs Γ).heap H locs → WC ct Γ H locs (F0 (gm Γ) pc ls [.int (gT Γ).1])
def RetV (Γ : Cx) (ω : Wd) (L : Ly) (cc : ByteArray) : Prop := ∀ (ct pc : Nat) (ls : Array Slot) (H : Heap) (locs : List Loc), CtOk Γ ct → decode cc pc = .ok (.return_, 1) → va_P ω.1 vwCl (wW ω L (gT Γ).2) H → va_S (gA Γ) (gs Γ).heap H locs → WC ct Γ H locs (F0 (gm Γ) pc ls [])
def RetF (Γ : Cx) (ω : Wd) (L : Ly) (cc : ByteArray) : Prop := ∀ (ct pc : Nat) (ls : Array Slot) (H : Heap) (locs : List Loc), CtOk Γ ct → decode cc pc = .ok (.freturn, 1) → va_P ω.1 vwCl (wW ω L (gT Γ).2) H → va_S (gA Γ) (gs Γ).heap H locs → WC ct Γ H locs (F0 (gm Γ) pc ls [.float (gT Γ).1.toUInt32])
section ROWS
variable {ct : Nat} {σ : Type} {Γ : Cx} {l : Launch} {rm : Room} {nL : Nat} {ω : Wd} {L : Ly} {cc : ByteArray} {own : String} {ws : List Cond} {em : σ → Mm} {pc : Nat} {lv : List (Nat × Value)} {st : List Value} {x : σ} {X Y : Option (Int32 × σ)}
theorem g_if {c : Prop} {_ : Decidable c} (a : c → Gq ct Γ ω L em pc lv st x X) (b : ¬ c → Gq ct Γ ω L em pc lv st x Y) : Gq ct Γ ω L em pc lv st x (if c then X else Y) := by
  by_cases h : c
  · rw [if_pos h]; exact a h
  · rw [if_neg h]; exact b h
theorem g_gd {c : Bool} (a : c = true → Gq ct Γ ω L em pc lv st x X) : Gq ct Γ ω L em pc lv st x (gd c X) := by
  cases c with
  | true => exact a rfl
  | false => exact fun q hq => by cases hq
theorem g_ni {e : Int32} {F : Int32 → Option (Int32 × σ)} (k : ∀ v, Gq ct Γ ω L em pc lv (.int v :: st) x (F v)) : Gq ct Γ ω L em pc lv (.int e :: st) x (nm e F) := k e
theorem g_nr {e : Int32} {F : Int32 → Option (Int32 × σ)} (k : ∀ v : Int32, Gq ct Γ ω L em pc lv (.ref (th ω v.toNatClampNeg 0) :: st) x (F v)) : Gq ct Γ ω L em pc lv (.ref (th ω e.toNatClampNeg 0) :: st) x (nm e F) := k e
theorem g_nm {F : σ → Option (Int32 × σ)} (k : ∀ t, Gq ct Γ ω L em pc lv st t (F t)) : Gq ct Γ ω L em pc lv st x (nm x F) := k x
theorem g_none : Gq ct Γ ω L em pc lv st x (none : Option (Int32 × σ)) := fun q hq => by cases hq
theorem g_sub (ks : List Nat) {lv' : List (Nat × Value)} (hl : lv_pick lv ks = lv') (k : Gq ct Γ ω L em pc lv' st x X) : Gq ct Γ ω L em pc lv st x X :=
  fun q hq ht hct ls H locs hh hP hS => k q hq ht hct ls H locs (lv_sub hh ks hl) hP hS
theorem g_iconst (h : CxOk Γ l rm nL ω L cc own ws) {n : Int} (v : Int32) (hdg : decode cc pc = .ok (.iconst n, 1))
    (hv : Int32.ofInt n = v) (k : Gq ct Γ ω L em (pc + 1) lv (.int v :: st) x X) : Gq ct Γ ω L em pc lv (st) x X := by
  obtain ⟨p, l', e, R, s, m, args, below, meth, c, Q, A, nL', tgt⟩ := Γ
  obtain ⟨-, -, hnL, hx, hb, hml, hown, hts, hK, hD, hA, hN, hZ⟩ := h
  exact fun q hq ht hct ls H locs hh hP hS => lv_iconst hx hb hdg hv (k q hq ht hct ls H locs hh hP hS)
theorem g_bipush (h : CxOk Γ l rm nL ω L cc own ws) {n : Int} (v : Int32) (hdg : decode cc pc = .ok (.bipush n, 2))
    (hv : (Int8.ofInt n).toInt32 = v) (k : Gq ct Γ ω L em (pc + 2) lv (.int v :: st) x X) : Gq ct Γ ω L em pc lv (st) x X := by
  obtain ⟨p, l', e, R, s, m, args, below, meth, c, Q, A, nL', tgt⟩ := Γ
  obtain ⟨-, -, hnL, hx, hb, hml, hown, hts, hK, hD, hA, hN, hZ⟩ := h
  exact fun q hq ht hct ls H locs hh hP hS => lv_bipush hx hb hdg hv (k q hq ht hct ls H locs hh hP hS)
theorem g_sipush (h : CxOk Γ l rm nL ω L cc own ws) {n : Int} (v : Int32) (hdg : decode cc pc = .ok (.sipush n, 3))
    (hv : (Int16.ofInt n).toInt32 = v) (k : Gq ct Γ ω L em (pc + 3) lv (.int v :: st) x X) : Gq ct Γ ω L em pc lv (st) x X := by
  obtain ⟨p, l', e, R, s, m, args, below, meth, c, Q, A, nL', tgt⟩ := Γ
  obtain ⟨-, -, hnL, hx, hb, hml, hown, hts, hK, hD, hA, hN, hZ⟩ := h
  exact fun q hq ht hct ls H locs hh hP hS => lv_sipush hx hb hdg hv (k q hq ht hct ls H locs hh hP hS)
theorem g_iload_n (h : CxOk Γ l rm nL ω L cc own ws) {n : Fin 4} {i : Nat} {v : Int32} (j : Nat) (hdg : decode cc pc = .ok (.iload_n n, 1))
    (hi : (n : Nat) = i) (hj : lv[j]? = some (i, .int v)) (k : Gq ct Γ ω L em (pc + 1) lv (.int v :: st) x X) : Gq ct Γ ω L em pc lv (st) x X := by
  obtain ⟨p, l', e, R, s, m, args, below, meth, c, Q, A, nL', tgt⟩ := Γ
  obtain ⟨-, -, hnL, hx, hb, hml, hown, hts, hK, hD, hA, hN, hZ⟩ := h
  exact fun q hq ht hct ls H locs hh hP hS => lv_iload_n hx hb hdg hi (lv_at hh j hj) (k q hq ht hct ls H locs hh hP hS)
theorem g_iload (h : CxOk Γ l rm nL ω L cc own ws) {i : Nat} {v : Int32} (j : Nat) (hdg : decode cc pc = .ok (.iload i, 2))
    (hj : lv[j]? = some (i, .int v)) (k : Gq ct Γ ω L em (pc + 2) lv (.int v :: st) x X) : Gq ct Γ ω L em pc lv (st) x X := by
  obtain ⟨p, l', e, R, s, m, args, below, meth, c, Q, A, nL', tgt⟩ := Γ
  obtain ⟨-, -, hnL, hx, hb, hml, hown, hts, hK, hD, hA, hN, hZ⟩ := h
  exact fun q hq ht hct ls H locs hh hP hS => lv_iload hx hb hdg (lv_at hh j hj) (k q hq ht hct ls H locs hh hP hS)
theorem g_aload_n (h : CxOk Γ l rm nL ω L cc own ws) {n : Fin 4} {i : Nat} {v : Nat} (j : Nat) (hdg : decode cc pc = .ok (.aload_n n, 1))
    (hi : (n : Nat) = i) (hj : lv[j]? = some (i, .ref v)) (k : Gq ct Γ ω L em (pc + 1) lv (.ref v :: st) x X) : Gq ct Γ ω L em pc lv (st) x X := by
  obtain ⟨p, l', e, R, s, m, args, below, meth, c, Q, A, nL', tgt⟩ := Γ
  obtain ⟨-, -, hnL, hx, hb, hml, hown, hts, hK, hD, hA, hN, hZ⟩ := h
  exact fun q hq ht hct ls H locs hh hP hS => lv_aload_n hx hb hdg hi (lv_at hh j hj) (k q hq ht hct ls H locs hh hP hS)
theorem g_aload (h : CxOk Γ l rm nL ω L cc own ws) {i : Nat} {v : Nat} (j : Nat) (hdg : decode cc pc = .ok (.aload i, 2))
    (hj : lv[j]? = some (i, .ref v)) (k : Gq ct Γ ω L em (pc + 2) lv (.ref v :: st) x X) : Gq ct Γ ω L em pc lv (st) x X := by
  obtain ⟨p, l', e, R, s, m, args, below, meth, c, Q, A, nL', tgt⟩ := Γ
  obtain ⟨-, -, hnL, hx, hb, hml, hown, hts, hK, hD, hA, hN, hZ⟩ := h
  exact fun q hq ht hct ls H locs hh hP hS => lv_aload hx hb hdg (lv_at hh j hj) (k q hq ht hct ls H locs hh hP hS)
theorem g_iadd (h : CxOk Γ l rm nL ω L cc own ws) {a b : Int32} (hdg : decode cc pc = .ok (.iadd, 1))
     (k : Gq ct Γ ω L em (pc + 1) lv (.int (a + b) :: st) x X) : Gq ct Γ ω L em pc lv (.int b :: .int a :: st) x X := by
  obtain ⟨p, l', e, R, s, m, args, below, meth, c, Q, A, nL', tgt⟩ := Γ
  obtain ⟨-, -, hnL, hx, hb, hml, hown, hts, hK, hD, hA, hN, hZ⟩ := h
  exact fun q hq ht hct ls H locs hh hP hS => lv_iadd hx hb hdg  (k q hq ht hct ls H locs hh hP hS)
theorem g_isub (h : CxOk Γ l rm nL ω L cc own ws) {a b : Int32} (hdg : decode cc pc = .ok (.isub, 1))
     (k : Gq ct Γ ω L em (pc + 1) lv (.int (a - b) :: st) x X) : Gq ct Γ ω L em pc lv (.int b :: .int a :: st) x X := by
  obtain ⟨p, l', e, R, s, m, args, below, meth, c, Q, A, nL', tgt⟩ := Γ
  obtain ⟨-, -, hnL, hx, hb, hml, hown, hts, hK, hD, hA, hN, hZ⟩ := h
  exact fun q hq ht hct ls H locs hh hP hS => lv_isub hx hb hdg  (k q hq ht hct ls H locs hh hP hS)
theorem g_imul (h : CxOk Γ l rm nL ω L cc own ws) {a b : Int32} (hdg : decode cc pc = .ok (.imul, 1))
     (k : Gq ct Γ ω L em (pc + 1) lv (.int (a * b) :: st) x X) : Gq ct Γ ω L em pc lv (.int b :: .int a :: st) x X := by
  obtain ⟨p, l', e, R, s, m, args, below, meth, c, Q, A, nL', tgt⟩ := Γ
  obtain ⟨-, -, hnL, hx, hb, hml, hown, hts, hK, hD, hA, hN, hZ⟩ := h
  exact fun q hq ht hct ls H locs hh hP hS => lv_imul hx hb hdg  (k q hq ht hct ls H locs hh hP hS)
theorem g_iand (h : CxOk Γ l rm nL ω L cc own ws) {a b : Int32} (hdg : decode cc pc = .ok (.iand, 1))
     (k : Gq ct Γ ω L em (pc + 1) lv (.int (a &&& b) :: st) x X) : Gq ct Γ ω L em pc lv (.int b :: .int a :: st) x X := by
  obtain ⟨p, l', e, R, s, m, args, below, meth, c, Q, A, nL', tgt⟩ := Γ
  obtain ⟨-, -, hnL, hx, hb, hml, hown, hts, hK, hD, hA, hN, hZ⟩ := h
  exact fun q hq ht hct ls H locs hh hP hS => lv_iand hx hb hdg  (k q hq ht hct ls H locs hh hP hS)
theorem g_i2c (h : CxOk Γ l rm nL ω L cc own ws) {a v : Int32} (hdg : decode cc pc = .ok (.i2c, 1))
    (hv : (a.toUInt32 % 65536).toInt32 = v) (k : Gq ct Γ ω L em (pc + 1) lv (.int v :: st) x X) : Gq ct Γ ω L em pc lv (.int a :: st) x X := by
  obtain ⟨p, l', e, R, s, m, args, below, meth, c, Q, A, nL', tgt⟩ := Γ
  obtain ⟨-, -, hnL, hx, hb, hml, hown, hts, hK, hD, hA, hN, hZ⟩ := h
  exact fun q hq ht hct ls H locs hh hP hS => lv_i2c hx hb hdg hv (k q hq ht hct ls H locs hh hP hS)
theorem g_i2f (h : CxOk Γ l rm nL ω L cc own ws) {a : Int32} (hdg : decode cc pc = .ok (.i2f, 1))
     (k : Gq ct Γ ω L em (pc + 1) lv (.float (FP.i2f a) :: st) x X) : Gq ct Γ ω L em pc lv (.int a :: st) x X := by
  obtain ⟨p, l', e, R, s, m, args, below, meth, c, Q, A, nL', tgt⟩ := Γ
  obtain ⟨-, -, hnL, hx, hb, hml, hown, hts, hK, hD, hA, hN, hZ⟩ := h
  exact fun q hq ht hct ls H locs hh hP hS => lv_i2f hx hb hdg  (k q hq ht hct ls H locs hh hP hS)
theorem g_fconst0 (h : CxOk Γ l rm nL ω L cc own ws)  (hdg : decode cc pc = .ok (.fconst 0, 1))
     (k : Gq ct Γ ω L em (pc + 1) lv (.float FP.fconst0 :: st) x X) : Gq ct Γ ω L em pc lv (st) x X := by
  obtain ⟨p, l', e, R, s, m, args, below, meth, c, Q, A, nL', tgt⟩ := Γ
  obtain ⟨-, -, hnL, hx, hb, hml, hown, hts, hK, hD, hA, hN, hZ⟩ := h
  exact fun q hq ht hct ls H locs hh hP hS => lv_fconst0 hx hb hdg  (k q hq ht hct ls H locs hh hP hS)
theorem g_dup (h : CxOk Γ l rm nL ω L cc own ws) {v : Value} (hdg : decode cc pc = .ok (.dup, 1))
    (hv : v.category = 1) (k : Gq ct Γ ω L em (pc + 1) lv (v :: v :: st) x X) : Gq ct Γ ω L em pc lv (v :: st) x X := by
  obtain ⟨p, l', e, R, s, m, args, below, meth, c, Q, A, nL', tgt⟩ := Γ
  obtain ⟨-, -, hnL, hx, hb, hml, hown, hts, hK, hD, hA, hN, hZ⟩ := h
  exact fun q hq ht hct ls H locs hh hP hS => lv_dup hx hb hdg hv (k q hq ht hct ls H locs hh hP hS)
theorem g_pop (h : CxOk Γ l rm nL ω L cc own ws) {v : Value} (hdg : decode cc pc = .ok (.pop, 1))
    (hv : v.category = 1) (k : Gq ct Γ ω L em (pc + 1) lv (st) x X) : Gq ct Γ ω L em pc lv (v :: st) x X := by
  obtain ⟨p, l', e, R, s, m, args, below, meth, c, Q, A, nL', tgt⟩ := Γ
  obtain ⟨-, -, hnL, hx, hb, hml, hown, hts, hK, hD, hA, hN, hZ⟩ := h
  exact fun q hq ht hct ls H locs hh hP hS => lv_pop hx hb hdg hv (k q hq ht hct ls H locs hh hP hS)
theorem g_dup2 (h : CxOk Γ l rm nL ω L cc own ws) {v w : Value} (hdg : decode cc pc = .ok (.dup2, 1))
    (hv : v.category = 1) (hw : w.category = 1) (k : Gq ct Γ ω L em (pc + 1) lv (v :: w :: v :: w :: st) x X) : Gq ct Γ ω L em pc lv (v :: w :: st) x X := by
  obtain ⟨p, l', e, R, s, m, args, below, meth, c, Q, A, nL', tgt⟩ := Γ
  obtain ⟨-, -, hnL, hx, hb, hml, hown, hts, hK, hD, hA, hN, hZ⟩ := h
  exact fun q hq ht hct ls H locs hh hP hS => lv_dup2_11 hx hb hdg hv hw (k q hq ht hct ls H locs hh hP hS)
theorem g_goto (h : CxOk Γ l rm nL ω L cc own ws) {off : Int} {tgt : Nat} (hdg : decode cc pc = .ok (.goto off, 3)) (ht : (pc : Int) + off = (tgt : Int)) (k : Gq ct Γ ω L em tgt lv st x X) : Gq ct Γ ω L em pc lv st x X := by
  obtain ⟨p, l', e, R, s, m, args, below, meth, c, Q, A, nL', tgt⟩ := Γ
  obtain ⟨-, -, hnL, hx, hb, hml, hown, hts, hK, hD, hA, hN, hZ⟩ := h
  exact fun q hq ht' hct ls H locs hh hP hS => lv_goto hx hb hdg ht (k q hq ht' hct ls H locs hh hP hS)
theorem g_idiv (h : CxOk Γ l rm nL ω L cc own ws) {a b : Int32} (hdg : decode cc pc = .ok (.idiv, 1)) (k : Gq ct Γ ω L em (pc + 1) lv (.int (a / b) :: st) x X) : Gq ct Γ ω L em pc lv (.int b :: .int a :: st) x (gd (!decide (b = 0)) X) := by
  refine g_gd (fun hb0 => ?_)
  obtain ⟨p, l', e, R, s, m, args, below, meth, c, Q, A, nL', tgt⟩ := Γ
  obtain ⟨-, -, hnL, hx, hb, hml, hown, hts, hK, hD, hA, hN, hZ⟩ := h
  exact fun q hq ht hct ls H locs hh hP hS => lv_idiv hx hb hdg (by simpa using hb0) (k q hq ht hct ls H locs hh hP hS)
theorem g_irem (h : CxOk Γ l rm nL ω L cc own ws) {a b : Int32} (hdg : decode cc pc = .ok (.irem, 1)) (k : Gq ct Γ ω L em (pc + 1) lv (.int (a - a / b * b) :: st) x X) : Gq ct Γ ω L em pc lv (.int b :: .int a :: st) x (gd (!decide (b = 0)) X) := by
  refine g_gd (fun hb0 => ?_)
  obtain ⟨p, l', e, R, s, m, args, below, meth, c, Q, A, nL', tgt⟩ := Γ
  obtain ⟨-, -, hnL, hx, hb, hml, hown, hts, hK, hD, hA, hN, hZ⟩ := h
  exact fun q hq ht hct ls H locs hh hP hS => lv_irem hx hb hdg (by simpa using hb0) (k q hq ht hct ls H locs hh hP hS)
theorem g_fdiv (h : CxOk Γ l rm nL ω L cc own ws) {a b : UInt32} (hdg : decode cc pc = .ok (.fdiv, 1)) (k : Gq ct Γ ω L em (pc + 1) lv (.float (FP.fdiv a b) :: st) x X) : Gq ct Γ ω L em pc lv (.float b :: .float a :: st) x (gd (decide (FP.fdiv a b &&& 0x7fffffff ≤ 0x7f800000)) X) := by
  refine g_gd (fun hb0 => ?_)
  obtain ⟨p, l', e, R, s, m, args, below, meth, c, Q, A, nL', tgt⟩ := Γ
  obtain ⟨-, -, hnL, hx, hb, hml, hown, hts, hK, hD, hA, hN, hZ⟩ := h
  exact fun q hq ht hct ls H locs hh hP hS => lv_fdiv hx hb hdg (by unfold vf_n32; simpa using hb0) (k q hq ht hct ls H locs hh hP hS)
theorem g_istore_n (h : CxOk Γ l rm nL ω L cc own ws) {n : Fin 4} {i : Nat} (hi : (n : Nat) = i) {v : Int32} {lv' : List (Nat × Value)} (hdg : decode cc pc = .ok (.istore_n n, 1)) (hn : i < nL) (ks : List Nat) (hl : lv_pick ((i, Value.int v) :: lv.filter (fun q => !(q.1 == i) && !(q.1 + 1 == i && q.2.category == 2))) ks = lv') (k : Gq ct Γ ω L em (pc + 1) lv' st x X) : Gq ct Γ ω L em pc lv (Value.int v :: st) x X := by
  obtain ⟨p, l', e, R, s, m, args, below, meth, c, Q, A, nL', tgt⟩ := Γ
  obtain ⟨-, -, hnL, hx, hb, hml, hown, hts, hK, hD, hA, hN, hZ⟩ := h
  exact fun q hq ht hct ls H locs hh hP hS => lv_istore_n hx hb hdg hi hh (hnL.symm ▸ hn) rfl (fun ls' hh' => k q hq ht hct ls' H locs (lv_sub hh' ks hl) hP hS)
theorem g_istore (h : CxOk Γ l rm nL ω L cc own ws) {i : Nat} {v : Int32} {lv' : List (Nat × Value)} (hdg : decode cc pc = .ok (.istore i, 2)) (hn : i < nL) (ks : List Nat) (hl : lv_pick ((i, Value.int v) :: lv.filter (fun q => !(q.1 == i) && !(q.1 + 1 == i && q.2.category == 2))) ks = lv') (k : Gq ct Γ ω L em (pc + 2) lv' st x X) : Gq ct Γ ω L em pc lv (Value.int v :: st) x X := by
  obtain ⟨p, l', e, R, s, m, args, below, meth, c, Q, A, nL', tgt⟩ := Γ
  obtain ⟨-, -, hnL, hx, hb, hml, hown, hts, hK, hD, hA, hN, hZ⟩ := h
  exact fun q hq ht hct ls H locs hh hP hS => lv_istore hx hb hdg  hh (hnL.symm ▸ hn) rfl (fun ls' hh' => k q hq ht hct ls' H locs (lv_sub hh' ks hl) hP hS)
theorem g_astore_n (h : CxOk Γ l rm nL ω L cc own ws) {n : Fin 4} {i : Nat} (hi : (n : Nat) = i) {v : Nat} {lv' : List (Nat × Value)} (hdg : decode cc pc = .ok (.astore_n n, 1)) (hn : i < nL) (ks : List Nat) (hl : lv_pick ((i, Value.ref v) :: lv.filter (fun q => !(q.1 == i) && !(q.1 + 1 == i && q.2.category == 2))) ks = lv') (k : Gq ct Γ ω L em (pc + 1) lv' st x X) : Gq ct Γ ω L em pc lv (Value.ref v :: st) x X := by
  obtain ⟨p, l', e, R, s, m, args, below, meth, c, Q, A, nL', tgt⟩ := Γ
  obtain ⟨-, -, hnL, hx, hb, hml, hown, hts, hK, hD, hA, hN, hZ⟩ := h
  exact fun q hq ht hct ls H locs hh hP hS => lv_astore_n hx hb hdg hi hh (hnL.symm ▸ hn) rfl (fun ls' hh' => k q hq ht hct ls' H locs (lv_sub hh' ks hl) hP hS)
theorem g_astore (h : CxOk Γ l rm nL ω L cc own ws) {i : Nat} {v : Nat} {lv' : List (Nat × Value)} (hdg : decode cc pc = .ok (.astore i, 2)) (hn : i < nL) (ks : List Nat) (hl : lv_pick ((i, Value.ref v) :: lv.filter (fun q => !(q.1 == i) && !(q.1 + 1 == i && q.2.category == 2))) ks = lv') (k : Gq ct Γ ω L em (pc + 2) lv' st x X) : Gq ct Γ ω L em pc lv (Value.ref v :: st) x X := by
  obtain ⟨p, l', e, R, s, m, args, below, meth, c, Q, A, nL', tgt⟩ := Γ
  obtain ⟨-, -, hnL, hx, hb, hml, hown, hts, hK, hD, hA, hN, hZ⟩ := h
  exact fun q hq ht hct ls H locs hh hP hS => lv_astore hx hb hdg  hh (hnL.symm ▸ hn) rfl (fun ls' hh' => k q hq ht hct ls' H locs (lv_sub hh' ks hl) hP hS)
theorem g_iinc (h : CxOk Γ l rm nL ω L cc own ws) {i : Nat} {n : Int} {a : Int32} (v : Int32) {lv' : List (Nat × Value)} (hdg : decode cc pc = .ok (.iinc i n, 3)) (j : Nat) (hj : lv[j]? = some (i, .int a)) (hv : a + Int32.ofInt n = v) (hn : i < nL) (ks : List Nat) (hl : lv_pick ((i, Value.int v) :: lv.filter (fun q => !(q.1 == i) && !(q.1 + 1 == i && q.2.category == 2))) ks = lv') (k : Gq ct Γ ω L em (pc + 3) lv' st x X) : Gq ct Γ ω L em pc lv st x X := by
  obtain ⟨p, l', e, R, s, m, args, below, meth, c, Q, A, nL', tgt⟩ := Γ
  obtain ⟨-, -, hnL, hx, hb, hml, hown, hts, hK, hD, hA, hN, hZ⟩ := h
  exact fun q hq ht hct ls H locs hh hP hS => lv_iinc hx hb hdg hh hj hv (hnL.symm ▸ hn) rfl (fun ls' hh' => k q hq ht hct ls' H locs (lv_sub hh' ks hl) hP hS)
theorem g_if_eq (h : CxOk Γ l rm nL ω L cc own ws) {a : Int32} {off : Int} (tgt : Nat) (hdg : decode cc pc = .ok (.ifCond .eq off, 3)) (ht : (pc : Int) + off = (tgt : Int)) (kt : a = 0 → Gq ct Γ ω L em tgt lv st x X) (kf : ¬ a = 0 → Gq ct Γ ω L em (pc + 3) lv st x Y) : Gq ct Γ ω L em pc lv (.int a :: st) x (if a = 0 then X else Y) := by
  obtain ⟨p, l', e, R, s, m, args, below, meth, c, Q, A, nL', tg⟩ := Γ
  obtain ⟨-, -, hnL, hx, hb, hml, hown, hts, hK, hD, hA, hN, hZ⟩ := h
  by_cases hc : a = 0
  · rw [if_pos hc]
    exact fun q hq ht' hct ls H locs hh hP hS => lv_if_eq hx hb hdg ht (fun hn => kt hc q hq ht' hct ls H locs hh hP hS) (fun hn => absurd hc hn)
  · rw [if_neg hc]
    exact fun q hq ht' hct ls H locs hh hP hS => lv_if_eq hx hb hdg ht (fun hn => absurd hn hc) (fun hn => kf hc q hq ht' hct ls H locs hh hP hS)
theorem g_icmp_eq (h : CxOk Γ l rm nL ω L cc own ws) {a b : Int32} {off : Int} (tgt : Nat) (hdg : decode cc pc = .ok (.if_icmp .eq off, 3)) (ht : (pc : Int) + off = (tgt : Int)) (kt : a = b → Gq ct Γ ω L em tgt lv st x X) (kf : ¬ a = b → Gq ct Γ ω L em (pc + 3) lv st x Y) : Gq ct Γ ω L em pc lv (.int b :: .int a :: st) x (if a = b then X else Y) := by
  obtain ⟨p, l', e, R, s, m, args, below, meth, c, Q, A, nL', tg⟩ := Γ
  obtain ⟨-, -, hnL, hx, hb, hml, hown, hts, hK, hD, hA, hN, hZ⟩ := h
  by_cases hc : a = b
  · rw [if_pos hc]
    exact fun q hq ht' hct ls H locs hh hP hS => lv_icmp_eq hx hb hdg ht (fun hn => kt hc q hq ht' hct ls H locs hh hP hS) (fun hn => absurd hc hn)
  · rw [if_neg hc]
    exact fun q hq ht' hct ls H locs hh hP hS => lv_icmp_eq hx hb hdg ht (fun hn => absurd hn hc) (fun hn => kf hc q hq ht' hct ls H locs hh hP hS)
theorem g_if_ne (h : CxOk Γ l rm nL ω L cc own ws) {a : Int32} {off : Int} (tgt : Nat) (hdg : decode cc pc = .ok (.ifCond .ne off, 3)) (ht : (pc : Int) + off = (tgt : Int)) (kf : a = 0 → Gq ct Γ ω L em (pc + 3) lv st x X) (kt : ¬ a = 0 → Gq ct Γ ω L em tgt lv st x Y) : Gq ct Γ ω L em pc lv (.int a :: st) x (if a = 0 then X else Y) := by
  obtain ⟨p, l', e, R, s, m, args, below, meth, c, Q, A, nL', tg⟩ := Γ
  obtain ⟨-, -, hnL, hx, hb, hml, hown, hts, hK, hD, hA, hN, hZ⟩ := h
  by_cases hc : a = 0
  · rw [if_pos hc]
    exact fun q hq ht' hct ls H locs hh hP hS => lv_if_ne hx hb hdg ht (fun hn => absurd hc hn) (fun hn => kf hc q hq ht' hct ls H locs hh hP hS)
  · rw [if_neg hc]
    exact fun q hq ht' hct ls H locs hh hP hS => lv_if_ne hx hb hdg ht (fun hn => kt hc q hq ht' hct ls H locs hh hP hS) (fun hn => absurd hn hc)
theorem g_icmp_ne (h : CxOk Γ l rm nL ω L cc own ws) {a b : Int32} {off : Int} (tgt : Nat) (hdg : decode cc pc = .ok (.if_icmp .ne off, 3)) (ht : (pc : Int) + off = (tgt : Int)) (kf : a = b → Gq ct Γ ω L em (pc + 3) lv st x X) (kt : ¬ a = b → Gq ct Γ ω L em tgt lv st x Y) : Gq ct Γ ω L em pc lv (.int b :: .int a :: st) x (if a = b then X else Y) := by
  obtain ⟨p, l', e, R, s, m, args, below, meth, c, Q, A, nL', tg⟩ := Γ
  obtain ⟨-, -, hnL, hx, hb, hml, hown, hts, hK, hD, hA, hN, hZ⟩ := h
  by_cases hc : a = b
  · rw [if_pos hc]
    exact fun q hq ht' hct ls H locs hh hP hS => lv_icmp_ne hx hb hdg ht (fun hn => absurd hc hn) (fun hn => kf hc q hq ht' hct ls H locs hh hP hS)
  · rw [if_neg hc]
    exact fun q hq ht' hct ls H locs hh hP hS => lv_icmp_ne hx hb hdg ht (fun hn => kt hc q hq ht' hct ls H locs hh hP hS) (fun hn => absurd hn hc)
theorem g_if_lt (h : CxOk Γ l rm nL ω L cc own ws) {a : Int32} {off : Int} (tgt : Nat) (hdg : decode cc pc = .ok (.ifCond .lt off, 3)) (ht : (pc : Int) + off = (tgt : Int)) (kt : a < 0 → Gq ct Γ ω L em tgt lv st x X) (kf : ¬ a < 0 → Gq ct Γ ω L em (pc + 3) lv st x Y) : Gq ct Γ ω L em pc lv (.int a :: st) x (if a < 0 then X else Y) := by
  obtain ⟨p, l', e, R, s, m, args, below, meth, c, Q, A, nL', tg⟩ := Γ
  obtain ⟨-, -, hnL, hx, hb, hml, hown, hts, hK, hD, hA, hN, hZ⟩ := h
  by_cases hc : a < 0
  · rw [if_pos hc]
    exact fun q hq ht' hct ls H locs hh hP hS => lv_if_lt hx hb hdg ht (fun hn => kt hc q hq ht' hct ls H locs hh hP hS) (fun hn => absurd hc hn)
  · rw [if_neg hc]
    exact fun q hq ht' hct ls H locs hh hP hS => lv_if_lt hx hb hdg ht (fun hn => absurd hn hc) (fun hn => kf hc q hq ht' hct ls H locs hh hP hS)
theorem g_icmp_lt (h : CxOk Γ l rm nL ω L cc own ws) {a b : Int32} {off : Int} (tgt : Nat) (hdg : decode cc pc = .ok (.if_icmp .lt off, 3)) (ht : (pc : Int) + off = (tgt : Int)) (kt : a < b → Gq ct Γ ω L em tgt lv st x X) (kf : ¬ a < b → Gq ct Γ ω L em (pc + 3) lv st x Y) : Gq ct Γ ω L em pc lv (.int b :: .int a :: st) x (if a < b then X else Y) := by
  obtain ⟨p, l', e, R, s, m, args, below, meth, c, Q, A, nL', tg⟩ := Γ
  obtain ⟨-, -, hnL, hx, hb, hml, hown, hts, hK, hD, hA, hN, hZ⟩ := h
  by_cases hc : a < b
  · rw [if_pos hc]
    exact fun q hq ht' hct ls H locs hh hP hS => lv_icmp_lt hx hb hdg ht (fun hn => kt hc q hq ht' hct ls H locs hh hP hS) (fun hn => absurd hc hn)
  · rw [if_neg hc]
    exact fun q hq ht' hct ls H locs hh hP hS => lv_icmp_lt hx hb hdg ht (fun hn => absurd hn hc) (fun hn => kf hc q hq ht' hct ls H locs hh hP hS)
theorem g_if_ge (h : CxOk Γ l rm nL ω L cc own ws) {a : Int32} {off : Int} (tgt : Nat) (hdg : decode cc pc = .ok (.ifCond .ge off, 3)) (ht : (pc : Int) + off = (tgt : Int)) (kt : 0 ≤ a → Gq ct Γ ω L em tgt lv st x X) (kf : ¬ 0 ≤ a → Gq ct Γ ω L em (pc + 3) lv st x Y) : Gq ct Γ ω L em pc lv (.int a :: st) x (if 0 ≤ a then X else Y) := by
  obtain ⟨p, l', e, R, s, m, args, below, meth, c, Q, A, nL', tg⟩ := Γ
  obtain ⟨-, -, hnL, hx, hb, hml, hown, hts, hK, hD, hA, hN, hZ⟩ := h
  by_cases hc : 0 ≤ a
  · rw [if_pos hc]
    exact fun q hq ht' hct ls H locs hh hP hS => lv_if_ge hx hb hdg ht (fun hn => kt hc q hq ht' hct ls H locs hh hP hS) (fun hn => absurd hc hn)
  · rw [if_neg hc]
    exact fun q hq ht' hct ls H locs hh hP hS => lv_if_ge hx hb hdg ht (fun hn => absurd hn hc) (fun hn => kf hc q hq ht' hct ls H locs hh hP hS)
theorem g_icmp_ge (h : CxOk Γ l rm nL ω L cc own ws) {a b : Int32} {off : Int} (tgt : Nat) (hdg : decode cc pc = .ok (.if_icmp .ge off, 3)) (ht : (pc : Int) + off = (tgt : Int)) (kt : b ≤ a → Gq ct Γ ω L em tgt lv st x X) (kf : ¬ b ≤ a → Gq ct Γ ω L em (pc + 3) lv st x Y) : Gq ct Γ ω L em pc lv (.int b :: .int a :: st) x (if b ≤ a then X else Y) := by
  obtain ⟨p, l', e, R, s, m, args, below, meth, c, Q, A, nL', tg⟩ := Γ
  obtain ⟨-, -, hnL, hx, hb, hml, hown, hts, hK, hD, hA, hN, hZ⟩ := h
  by_cases hc : b ≤ a
  · rw [if_pos hc]
    exact fun q hq ht' hct ls H locs hh hP hS => lv_icmp_ge hx hb hdg ht (fun hn => kt hc q hq ht' hct ls H locs hh hP hS) (fun hn => absurd hc hn)
  · rw [if_neg hc]
    exact fun q hq ht' hct ls H locs hh hP hS => lv_icmp_ge hx hb hdg ht (fun hn => absurd hn hc) (fun hn => kf hc q hq ht' hct ls H locs hh hP hS)
theorem g_if_gt (h : CxOk Γ l rm nL ω L cc own ws) {a : Int32} {off : Int} (tgt : Nat) (hdg : decode cc pc = .ok (.ifCond .gt off, 3)) (ht : (pc : Int) + off = (tgt : Int)) (kt : 0 < a → Gq ct Γ ω L em tgt lv st x X) (kf : ¬ 0 < a → Gq ct Γ ω L em (pc + 3) lv st x Y) : Gq ct Γ ω L em pc lv (.int a :: st) x (if 0 < a then X else Y) := by
  obtain ⟨p, l', e, R, s, m, args, below, meth, c, Q, A, nL', tg⟩ := Γ
  obtain ⟨-, -, hnL, hx, hb, hml, hown, hts, hK, hD, hA, hN, hZ⟩ := h
  by_cases hc : 0 < a
  · rw [if_pos hc]
    exact fun q hq ht' hct ls H locs hh hP hS => lv_if_gt hx hb hdg ht (fun hn => kt hc q hq ht' hct ls H locs hh hP hS) (fun hn => absurd hc hn)
  · rw [if_neg hc]
    exact fun q hq ht' hct ls H locs hh hP hS => lv_if_gt hx hb hdg ht (fun hn => absurd hn hc) (fun hn => kf hc q hq ht' hct ls H locs hh hP hS)
theorem g_icmp_gt (h : CxOk Γ l rm nL ω L cc own ws) {a b : Int32} {off : Int} (tgt : Nat) (hdg : decode cc pc = .ok (.if_icmp .gt off, 3)) (ht : (pc : Int) + off = (tgt : Int)) (kt : b < a → Gq ct Γ ω L em tgt lv st x X) (kf : ¬ b < a → Gq ct Γ ω L em (pc + 3) lv st x Y) : Gq ct Γ ω L em pc lv (.int b :: .int a :: st) x (if b < a then X else Y) := by
  obtain ⟨p, l', e, R, s, m, args, below, meth, c, Q, A, nL', tg⟩ := Γ
  obtain ⟨-, -, hnL, hx, hb, hml, hown, hts, hK, hD, hA, hN, hZ⟩ := h
  by_cases hc : b < a
  · rw [if_pos hc]
    exact fun q hq ht' hct ls H locs hh hP hS => lv_icmp_gt hx hb hdg ht (fun hn => kt hc q hq ht' hct ls H locs hh hP hS) (fun hn => absurd hc hn)
  · rw [if_neg hc]
    exact fun q hq ht' hct ls H locs hh hP hS => lv_icmp_gt hx hb hdg ht (fun hn => absurd hn hc) (fun hn => kf hc q hq ht' hct ls H locs hh hP hS)
theorem g_if_le (h : CxOk Γ l rm nL ω L cc own ws) {a : Int32} {off : Int} (tgt : Nat) (hdg : decode cc pc = .ok (.ifCond .le off, 3)) (ht : (pc : Int) + off = (tgt : Int)) (kt : a ≤ 0 → Gq ct Γ ω L em tgt lv st x X) (kf : ¬ a ≤ 0 → Gq ct Γ ω L em (pc + 3) lv st x Y) : Gq ct Γ ω L em pc lv (.int a :: st) x (if a ≤ 0 then X else Y) := by
  obtain ⟨p, l', e, R, s, m, args, below, meth, c, Q, A, nL', tg⟩ := Γ
  obtain ⟨-, -, hnL, hx, hb, hml, hown, hts, hK, hD, hA, hN, hZ⟩ := h
  by_cases hc : a ≤ 0
  · rw [if_pos hc]
    exact fun q hq ht' hct ls H locs hh hP hS => lv_if_le hx hb hdg ht (fun hn => kt hc q hq ht' hct ls H locs hh hP hS) (fun hn => absurd hc hn)
  · rw [if_neg hc]
    exact fun q hq ht' hct ls H locs hh hP hS => lv_if_le hx hb hdg ht (fun hn => absurd hn hc) (fun hn => kf hc q hq ht' hct ls H locs hh hP hS)
theorem g_icmp_le (h : CxOk Γ l rm nL ω L cc own ws) {a b : Int32} {off : Int} (tgt : Nat) (hdg : decode cc pc = .ok (.if_icmp .le off, 3)) (ht : (pc : Int) + off = (tgt : Int)) (kt : a ≤ b → Gq ct Γ ω L em tgt lv st x X) (kf : ¬ a ≤ b → Gq ct Γ ω L em (pc + 3) lv st x Y) : Gq ct Γ ω L em pc lv (.int b :: .int a :: st) x (if a ≤ b then X else Y) := by
  obtain ⟨p, l', e, R, s, m, args, below, meth, c, Q, A, nL', tg⟩ := Γ
  obtain ⟨-, -, hnL, hx, hb, hml, hown, hts, hK, hD, hA, hN, hZ⟩ := h
  by_cases hc : a ≤ b
  · rw [if_pos hc]
    exact fun q hq ht' hct ls H locs hh hP hS => lv_icmp_le hx hb hdg ht (fun hn => kt hc q hq ht' hct ls H locs hh hP hS) (fun hn => absurd hc hn)
  · rw [if_neg hc]
    exact fun q hq ht' hct ls H locs hh hP hS => lv_icmp_le hx hb hdg ht (fun hn => absurd hn hc) (fun hn => kf hc q hq ht' hct ls H locs hh hP hS)
theorem g_getR (h : CxOk Γ l rm nL ω L cc own ws) {k a ci N index j k' a' : Nat} {fs : List (Option (Nat × Nat))} {C : String} {T : u_T} (hc : inL L k a (0, ci, fs)) (hcl : vwCl[ci]? = some (C, T, N)) (hin : ∀ w ∈ u_ws C T N, w ∈ ws) (hj : j < N) (hf : fs[j]? = some (some (k', a'))) (hlink : Cond.fieldLink own index (T j).1 (T j).2.1 (T j).2.2.1 ∈ ws) (hdg : decode cc pc = .ok (.getfield index, 3))
    (kk : Gq ct Γ ω L em (pc + 3) lv (.ref (th ω k' a') :: st) x X) : Gq ct Γ ω L em pc lv (.ref (th ω k a) :: st) x X := by
  obtain ⟨p, l', e, R, s, m, args, below, meth, c, Q, A, nL', tgt⟩ := Γ
  obtain ⟨-, -, -, hx, hb, hml, hown, hts, hK, hD, hA, hN, hZ⟩ := h
  intro q hq ht hct ls H locs hh hP hS
  obtain ⟨p0, -, hp⟩ := wW_get (ω := ω) (M := em x) hc
  exact va_get hx hb hts hin hown hK hP p0 hp hcl j hj (hts _ hlink) (fun _ h9 => h9) (fV_get hf) hdg (kk q hq ht hct ls H locs hh hP hS)
theorem g_getI (h : CxOk Γ l rm nL ω L cc own ws) {k a ci N index j : Nat} {fs : List (Option (Nat × Nat))} {C : String} {T : u_T} {v : Int32} (hv : em x k a j = v) (hc : inL L k a (0, ci, fs)) (hcl : vwCl[ci]? = some (C, T, N)) (hin : ∀ w ∈ u_ws C T N, w ∈ ws) (hj : j < N) (hf : fs[j]? = some none) (hlink : Cond.fieldLink own index (T j).1 (T j).2.1 (T j).2.2.1 ∈ ws) (hdg : decode cc pc = .ok (.getfield index, 3))
    (kk : Gq ct Γ ω L em (pc + 3) lv (.int v :: st) x X) : Gq ct Γ ω L em pc lv (.ref (th ω k a) :: st) x X := by
  obtain ⟨p, l', e, R, s, m, args, below, meth, c, Q, A, nL', tgt⟩ := Γ
  obtain ⟨-, -, -, hx, hb, hml, hown, hts, hK, hD, hA, hN, hZ⟩ := h
  subst hv
  intro q hq ht hct ls H locs hh hP hS
  obtain ⟨p0, -, hp⟩ := wW_get (ω := ω) (M := em x) hc
  exact va_get hx hb hts hin hown hK hP p0 hp hcl j hj (hts _ hlink) (fun _ h9 => h9) (fV_geti hf) hdg (kk q hq ht hct ls H locs hh hP hS)
theorem g_putI (h : CxOk Γ l rm nL ω L cc own ws) {k a ci N index j : Nat} {fs : List (Option (Nat × Nat))} {C : String} {T : u_T} {ty0 : Nat → FieldType} {ty : FieldType} {v : Int32} {x' : σ} (hv : em x' = wM (em x) k a j v) (hc : inL L k a (0, ci, fs)) (hcl : vwCl[ci]? = some (C, T, N)) (hin : ∀ w ∈ u_ws C T N, w ∈ ws) (hty : ∀ k, k < N → parseFieldDescriptor (T k).2.2.1 = some (ty0 k)) (hnm : ∀ a, a < N → ∀ b, b < N → a ≠ b → (T a).2.1 ≠ (T b).2.1) (hj : j < N) (hf : fs[j]? = some none) (hlink : Cond.fieldLink own index (T j).1 (T j).2.1 (T j).2.2.1 ∈ ws) (hfin : (T j).2.2.2 = false) (hd : parseFieldDescriptor (T j).2.2.1 = some ty) (hn : narrow ty (.int v) = .int v) (hfit : fits ty (.int v) = true) (hdg : decode cc pc = .ok (.putfield index, 3))
    (kk : Gq ct Γ ω L em (pc + 3) lv st x' X) : Gq ct Γ ω L em pc lv (.int v :: .ref (th ω k a) :: st) x X := by
  obtain ⟨p, l', e, R, s, m, args, below, meth, c, Q, A, nL', tgt⟩ := Γ
  obtain ⟨-, -, -, hx, hb, hml, hown, hts, hK, hD, hA, hN, hZ⟩ := h
  intro q hq ht hct ls H locs hh hP hS
  obtain ⟨p0, hp0, hp⟩ := wW_get (ω := ω) (M := em x) hc
  have hl : j < (fV ω (em x k a) fs).length := by rw [fV_len]; exact (List.getElem?_eq_some_iff.mp hf).1
  refine va_put hx hb hts hin ty0 hty hnm hown hK hP (wD hD (em x)) hS p0 hp hcl j hj (hts _ hlink) (fun _ h9 => h9) hfin hd hn hfit hl hdg (fun H1 locs1 hP1 _ hS1 => ?_)
  refine kk q hq ht hct ls H1 locs1 hh ?_ hS1
  have e1 := wW_set (ω := ω) (M := em x) hN hc hp0 (upd (em x k a) j v) (em x') (by rw [hv, wM_at]) (fun k' a' hne => by rw [hv, wM_off _ _ _ _ _ _ _ hne])
  rw [← e1]
  rw [fV_set hf] at hP1
  exact hP1
theorem g_iald (h : CxOk Γ l rm nL ω L cc own ws) {k a n : Nat} {fs : List (Option (Nat × Nat))} {i v : Int32} (hv : em x k a i.toNatClampNeg = v) (hc : inL L k a (1, n, fs)) (hdg : decode cc pc = .ok (.iaload, 1))
    (kk : Gq ct Γ ω L em (pc + 1) lv (.int v :: st) x X) : Gq ct Γ ω L em pc lv (.int i :: .ref (th ω k a) :: st) x (gd (ib i n) X) := by
  refine g_gd (fun hi => ?_)
  obtain ⟨p, l', e, R, s, m, args, below, meth, c, Q, A, nL', tgt⟩ := Γ
  obtain ⟨-, -, -, hx, hb, hml, hown, hts, hK, hD, hA, hN, hZ⟩ := h
  subst hv
  intro q hq ht hct ls H locs hh hP hS
  obtain ⟨p0, hp0, hp⟩ := wW_get (ω := ω) (M := em x) hc
  exact va_iald hx hb hK hP p0 0 hp rfl (ib_in hi) hdg (kk q hq ht hct ls H locs hh hP hS)
theorem g_cald (h : CxOk Γ l rm nL ω L cc own ws) {k a n : Nat} {fs : List (Option (Nat × Nat))} {i v : Int32} (hv : em x k a i.toNatClampNeg = v) (hc : inL L k a (2, n, fs)) (hdg : decode cc pc = .ok (.caload, 1))
    (kk : Gq ct Γ ω L em (pc + 1) lv (.int v :: st) x X) : Gq ct Γ ω L em pc lv (.int i :: .ref (th ω k a) :: st) x (gd (ib i n) X) := by
  refine g_gd (fun hi => ?_)
  obtain ⟨p, l', e, R, s, m, args, below, meth, c, Q, A, nL', tgt⟩ := Γ
  obtain ⟨-, -, -, hx, hb, hml, hown, hts, hK, hD, hA, hN, hZ⟩ := h
  subst hv
  intro q hq ht hct ls H locs hh hP hS
  obtain ⟨p0, hp0, hp⟩ := wW_get (ω := ω) (M := em x) hc
  exact va_cald hx hb hK hP p0 1 hp rfl (ib_in hi) hdg (kk q hq ht hct ls H locs hh hP hS)
theorem g_aald (h : CxOk Γ l rm nL ω L cc own ws) {k a n : Nat} {fs : List (Option (Nat × Nat))} {i v : Int32} (hv : em x k a i.toNatClampNeg = v) (hc : inL L k a (3, n, fs)) (hdg : decode cc pc = .ok (.aaload, 1))
    (kk : Gq ct Γ ω L em (pc + 1) lv (.ref (th ω v.toNatClampNeg 0) :: st) x X) : Gq ct Γ ω L em pc lv (.int i :: .ref (th ω k a) :: st) x (gd (ib i n) X) := by
  refine g_gd (fun hi => ?_)
  obtain ⟨p, l', e, R, s, m, args, below, meth, c, Q, A, nL', tgt⟩ := Γ
  obtain ⟨-, -, -, hx, hb, hml, hown, hts, hK, hD, hA, hN, hZ⟩ := h
  subst hv
  intro q hq ht hct ls H locs hh hP hS
  obtain ⟨p0, hp0, hp⟩ := wW_get (ω := ω) (M := em x) hc
  exact va_aldq (C := RX4) (f := fun j => some (th ω (em x k a j).toNatClampNeg 0)) hx hb hK hP p0 2 hp rfl (ib_in hi) hdg (kk q hq ht hct ls H locs hh hP hS)
theorem g_iast (h : CxOk Γ l rm nL ω L cc own ws) {k a n : Nat} {fs : List (Option (Nat × Nat))} {i v : Int32} {x' : σ} (hv : em x' = wM (em x) k a i.toNatClampNeg v) (hc : inL L k a (1, n, fs)) (hdg : decode cc pc = .ok (.iastore, 1))
    (kk : Gq ct Γ ω L em (pc + 1) lv st x' X) : Gq ct Γ ω L em pc lv (.int v :: .int i :: .ref (th ω k a) :: st) x (gd (ib i n) X) := by
  refine g_gd (fun hi => ?_)
  obtain ⟨p, l', e, R, s, m, args, below, meth, c, Q, A, nL', tgt⟩ := Γ
  obtain ⟨-, -, -, hx, hb, hml, hown, hts, hK, hD, hA, hN, hZ⟩ := h
  intro q hq ht hct ls H locs hh hP hS
  obtain ⟨p0, hp0, hp⟩ := wW_get (ω := ω) (M := em x) hc
  refine va_iast hx hb hK hP (wD hD (em x)) hS p0 0 hp rfl (ib_in hi) hdg (fun H1 locs1 hP1 _ hS1 => ?_)
  refine kk q hq ht hct ls H1 locs1 hh ?_ hS1
  have e1 := wW_set (ω := ω) (M := em x) hN hc hp0 (upd (em x k a) i.toNatClampNeg v) (em x') (by rw [hv, wM_at]) (fun k' a' hne => by rw [hv, wM_off _ _ _ _ _ _ _ hne])
  rw [← e1]
  exact hP1
theorem g_cast (h : CxOk Γ l rm nL ω L cc own ws) {k a n : Nat} {fs : List (Option (Nat × Nat))} {i v : Int32} {x' : σ} (hv : em x' = wM (em x) k a i.toNatClampNeg (vp_nar .char v)) (hc : inL L k a (2, n, fs)) (hdg : decode cc pc = .ok (.castore, 1))
    (kk : Gq ct Γ ω L em (pc + 1) lv st x' X) : Gq ct Γ ω L em pc lv (.int v :: .int i :: .ref (th ω k a) :: st) x (gd (ib i n) X) := by
  refine g_gd (fun hi => ?_)
  obtain ⟨p, l', e, R, s, m, args, below, meth, c, Q, A, nL', tgt⟩ := Γ
  obtain ⟨-, -, -, hx, hb, hml, hown, hts, hK, hD, hA, hN, hZ⟩ := h
  intro q hq ht hct ls H locs hh hP hS
  obtain ⟨p0, hp0, hp⟩ := wW_get (ω := ω) (M := em x) hc
  refine va_cast hx hb hK hP (wD hD (em x)) hS p0 1 hp rfl (ib_in hi) hdg (fun H1 locs1 hP1 _ hS1 => ?_)
  refine kk q hq ht hct ls H1 locs1 hh ?_ hS1
  have e1 := wW_set (ω := ω) (M := em x) hN hc hp0 (upd (em x k a) i.toNatClampNeg (vp_nar .char v)) (em x') (by rw [hv, wM_at]) (fun k' a' hne => by rw [hv, wM_off _ _ _ _ _ _ _ hne])
  rw [← e1]
  exact hP1
theorem g_aast (h : CxOk Γ l rm nL ω L cc own ws) {k a n : Nat} {fs fs' : List (Option (Nat × Nat))} {i v : Int32} {x' : σ} (hv : em x' = wM (em x) k a i.toNatClampNeg v) (hc : inL L k a (3, n, fs)) (hs : inL L v.toNatClampNeg 0 (0, 4, fs')) (hdg : decode cc pc = .ok (.aastore, 1))
    (kk : Gq ct Γ ω L em (pc + 1) lv st x' X) : Gq ct Γ ω L em pc lv (.ref (th ω v.toNatClampNeg 0) :: .int i :: .ref (th ω k a) :: st) x (gd (ib i n) X) := by
  refine g_gd (fun hi => ?_)
  obtain ⟨p, l', e, R, s, m, args, below, meth, c, Q, A, nL', tgt⟩ := Γ
  obtain ⟨-, -, -, hx, hb, hml, hown, hts, hK, hD, hA, hN, hZ⟩ := h
  intro q hq ht hct ls H locs hh hP hS
  obtain ⟨p0, hp0, hp⟩ := wW_get (ω := ω) (M := em x) hc
  obtain ⟨p1, hp1, hp2⟩ := wW_get (ω := ω) (M := em x) hs
  refine va_astq (r := (RX4, TX4, 13)) (f := fun j => some (th ω (em x k a j).toNatClampNeg 0)) hx hb hK hP (wD hD (em x)) hS p0 2 p1 4 hp rfl hp2 rfl (ib_in hi) hdg (fun H1 locs1 hP1 _ hS1 => ?_)
  refine kk q hq ht hct ls H1 locs1 hh ?_ hS1
  have e1 := wW_set (ω := ω) (M := em x) hN hc hp0 (upd (em x k a) i.toNatClampNeg v) (em x') (by rw [hv, wM_at]) (fun k' a' hne => by rw [hv, wM_off _ _ _ _ _ _ _ hne])
  rw [← e1]
  have e2 : va_up (fun j => some (th ω (em x k a j).toNatClampNeg 0)) i.toNatClampNeg (some (th ω v.toNatClampNeg 0)) = (fun j => some (th ω (upd (em x k a) i.toNatClampNeg v j).toNatClampNeg 0)) := by
    funext j
    by_cases hj : j = i.toNatClampNeg
    · simp [va_up, upd, hj]
    · simp [va_up, upd, hj]
  rw [e2] at hP1
  exact hP1
theorem g_min (h : CxOk Γ l rm nL ω L cc own ws) {index : Nat} {a b : Int32} (hlink : Cond.methodLink own index Lib.Math.min.name ∈ ws) (hstat : Cond.static Lib.Math.min.name ∈ ws) (hini : Cond.initialized "java/lang/Math" ∈ ws) (hcode : Cond.code Lib.Math.min.name Lib.Math.min.code 2 (some .int) ∈ ws) (hfr : 1 ≤ rm.frames) (hlo : (st.map fun v => v.category).sum + 13 ≤ rm.locals) (hdg : decode cc pc = .ok (.invokestatic index, 3))
    (kk : Gq ct Γ ω L em (pc + 3) lv (.int (mn a b) :: st) x X) : Gq ct Γ ω L em pc lv (.int b :: .int a :: st) x X := by
  obtain ⟨p, l', e, R, s, m, args, below, meth, c, Q, A, nL', tgt⟩ := Γ
  obtain ⟨-, hR, -, hx, hb, hml, hown, hts, hK, hD, hA, hN, hZ⟩ := h
  subst hR
  intro q hq ht hct ls H locs hh hP hS
  exact va_mmin hx hb (hml.trans hh.1.symm) hown (hts _ hlink) (hts _ hstat) (hts _ hini) (hts _ hcode) hfr hlo hct.1 hct.2 hdg (kk q hq ht hct ls H locs hh hP hS)
theorem g_max (h : CxOk Γ l rm nL ω L cc own ws) {index : Nat} {a b : Int32} (hlink : Cond.methodLink own index Lib.Math.max.name ∈ ws) (hstat : Cond.static Lib.Math.max.name ∈ ws) (hini : Cond.initialized "java/lang/Math" ∈ ws) (hcode : Cond.code Lib.Math.max.name Lib.Math.max.code 2 (some .int) ∈ ws) (hfr : 1 ≤ rm.frames) (hlo : (st.map fun v => v.category).sum + 13 ≤ rm.locals) (hdg : decode cc pc = .ok (.invokestatic index, 3))
    (kk : Gq ct Γ ω L em (pc + 3) lv (.int (mx a b) :: st) x X) : Gq ct Γ ω L em pc lv (.int b :: .int a :: st) x X := by
  obtain ⟨p, l', e, R, s, m, args, below, meth, c, Q, A, nL', tgt⟩ := Γ
  obtain ⟨-, hR, -, hx, hb, hml, hown, hts, hK, hD, hA, hN, hZ⟩ := h
  subst hR
  intro q hq ht hct ls H locs hh hP hS
  exact va_mmax hx hb (hml.trans hh.1.symm) hown (hts _ hlink) (hts _ hstat) (hts _ hini) (hts _ hcode) hfr hlo hct.1 hct.2 hdg (kk q hq ht hct ls H locs hh hP hS)
/-- System.arraycopy between int rows of the world, from 0 to 0 -/
theorem g_copy (h : CxOk Γ l rm nL ω L cc own ws) {index k a k1 a1 n n1 : Nat} {fs fs1 : List (Option (Nat × Nat))} {w : Int32} {x' : σ} (hv : em x' = uM (em x) k1 (cT (em x k1) a1 (em x k a) w.toNatClampNeg)) (hc : inL L k a (1, n, fs)) (hc1 : inL L k1 a1 (1, n1, fs1)) (hw : ¬ w < 0) (h1 : w.toNatClampNeg ≤ n) (h2 : w.toNatClampNeg ≤ n1)
    (hlink : Cond.methodLink own index arraycopyName ∈ ws) (hnat : Cond.native arraycopyName ∈ ws) (hstat : Cond.static arraycopyName ∈ ws) (hini : Cond.initialized "java/lang/System" ∈ ws) (hfr : 1 ≤ rm.frames) (hlo : (st.map fun v => v.category).sum + (nativeFrameWords "java/lang/System" "arraycopy" 5 + 11) ≤ rm.locals) (hdg : decode cc pc = .ok (.invokestatic index, 3))
    (kk : Gq ct Γ ω L em (pc + 3) lv st x' X) : Gq ct Γ ω L em pc lv (.int w :: .int 0 :: .ref (th ω k1 a1) :: .int 0 :: .ref (th ω k a) :: st) x X := by
  obtain ⟨p, l', e, R, s, m, args, below, meth, c, Q, A, nL', tgt⟩ := Γ
  obtain ⟨-, hR, -, hx, hb, hml, hown, hts, hK, hD, hA, hN, hZ⟩ := h
  subst hR
  intro q hq ht hct ls H locs hh hP hS
  obtain ⟨p0, hp0, hp⟩ := wW_get (ω := ω) (M := em x) hc
  obtain ⟨p1, hp1, hp2⟩ := wW_get (ω := ω) (M := em x) hc1
  refine va_copyi hx hb (hml.trans hh.1.symm) hown (hts _ hlink) (hts _ hnat) (hts _ hstat) (hts _ hini) hK hP (wD hD (em x)) hS p0 p1 0 0 hp hp2 rfl rfl rfl (by decide) (by decide) hw (by have e0 : (0 : Int32).toNatClampNeg = 0 := (by decide);  rw [e0, Nat.zero_add]; exact h1) (by have e0 : (0 : Int32).toNatClampNeg = 0 := (by decide);                                             rw [e0, Nat.zero_add]; exact h2) (fun _ _ => rfl) hfr hlo hdg (fun H1 locs1 hP1 _ hS1 => ?_)
  refine kk q hq ht hct ls H1 locs1 hh ?_ hS1
  have e1 := wW_set (ω := ω) (M := em x) hN hc1 hp1 (va_cpy (em x k a) (em x k1 a1) 0 0 w.toNatClampNeg) (em x') (by rw [hv, uM_same, cT_same]) (fun k' a' hne => by
    rw [hv]
    by_cases hk : k' = k1
    · subst hk
      rw [uM_same, cT_ne _ _ _ (fun e => hne ⟨rfl, e⟩)]
    · rw [uM_ne _ _ _ hk])
  rw [← e1]
  exact hP1
/-- ends of a method -/
theorem g_iret {ty : FieldType} (hR : RetI Γ ω L cc ty) {r : Int32} (hn : narrow ty (.int r) = .int r) (hdg : decode cc pc = .ok (.ireturn, 1)) : Gq ct Γ ω L em pc lv [.int r] x (some (r, x)) := by
  intro q hq ht hct ls H locs hh hP hS
  cases hq
  have e1 : r = (gT Γ).1 := by rw [ht]
  have e2 : em x = (gT Γ).2 := by rw [ht]
  subst e1
  rw [e2] at hP
  exact hR ct pc ls H locs hct hdg hn hP hS
theorem g_nret {ty : FieldType} (hR : RetI Γ ω L cc ty) {r : Int32} (hty : ∀ v, narrow ty (.int v) = .int (vp_nar ty v)) (hdg : decode cc pc = .ok (.ireturn, 1)) : Gq ct Γ ω L em pc lv [.int r] x (gd (nb ty r) (some (r, x))) := by
  refine g_gd (fun hb => ?_)
  exact g_iret hR (by rw [hty, of_decide_eq_true hb]) hdg
theorem g_vret (hR : RetV Γ ω L cc) {r : Int32} (hdg : decode cc pc = .ok (.return_, 1)) : Gq ct Γ ω L em pc lv [] x (some (r, x)) := by
  intro q hq ht hct ls H locs hh hP hS
  cases hq
  have e2 : em x = (gT Γ).2 := by rw [ht]
  rw [e2] at hP
  exact hR ct pc ls H locs hct hdg hP hS
theorem g_fret (hR : RetF Γ ω L cc) {r : UInt32} (hdg : decode cc pc = .ok (.freturn, 1)) : Gq ct Γ ω L em pc lv [.float r] x (some (r.toInt32, x)) := by
  intro q hq ht hct ls H locs hh hP hS
  cases hq
  have e1 : r = (gT Γ).1.toUInt32 := by rw [ht]; simp
  have e2 : em x = (gT Γ).2 := by rw [ht]
  subst e1
  rw [e2] at hP
  exact hR ct pc ls H locs hct hdg hP hS
theorem g_tsIn (h : CxOk Γ l rm nL ω L cc own ws) {dflt lo hi : Int} {offs : Array Int} {len : Nat} {a : Int32} (b : Int32) {off : Int} (tgt : Nat) (hab : a = b) (hdg : decode cc pc = .ok (.tableswitch dflt lo hi offs, len)) (h1 : ¬ b.toInt < lo) (h2 : ¬ hi < b.toInt) (ho : offs[(b.toInt - lo).toNat]? = some off) (ht : (pc : Int) + off = (tgt : Int)) (kk : Gq ct Γ ω L em tgt lv st x X) : Gq ct Γ ω L em pc lv (.int a :: st) x X := by
  obtain ⟨p, l', e, R, s, m, args, below, meth, c, Q, A, nL', tg⟩ := Γ
  obtain ⟨-, -, -, hx, hb, hml, hown, hts, hK, hD, hA, hN, hZ⟩ := h
  subst hab
  exact fun q hq ht' hct ls H locs hh hP hS => lv_tableIn hx hb hdg h1 h2 ho ht (kk q hq ht' hct ls H locs hh hP hS)
theorem g_tsOut (h : CxOk Γ l rm nL ω L cc own ws) {dflt lo hi : Int} {offs : Array Int} {len : Nat} {a : Int32} (tgt : Nat) (hout : a.toInt < lo ∨ hi < a.toInt) (hdg : decode cc pc = .ok (.tableswitch dflt lo hi offs, len)) (ht : (pc : Int) + dflt = (tgt : Int)) (kk : Gq ct Γ ω L em tgt lv st x X) : Gq ct Γ ω L em pc lv (.int a :: st) x X := by
  obtain ⟨p, l', e, R, s, m, args, below, meth, c, Q, A, nL', tg⟩ := Γ
  obtain ⟨-, -, -, hx, hb, hml, hown, hts, hK, hD, hA, hN, hZ⟩ := h
  exact fun q hq ht' hct ls H locs hh hP hS => lv_tableOut hx hb hdg hout ht (kk q hq ht' hct ls H locs hh hP hS)
theorem g_lsw (h : CxOk Γ l rm nL ω L cc own ws) {dflt : Int} {ps : Array (Int × Int)} {len : Nat} {a : Int32} {off : Int} (tgt : Nat) (hdg : decode cc pc = .ok (.lookupswitch dflt ps, len)) (hp : (ps.toList.zip (ps.toList.drop 1)).all (fun (a, next) => a.1 < next.1) = true) (ho : Op.lookupswitch.offset ps.toList dflt a.toInt = off) (ht : (pc : Int) + off = (tgt : Int)) (kk : Gq ct Γ ω L em tgt lv st x X) : Gq ct Γ ω L em pc lv (.int a :: st) x X := by
  obtain ⟨p, l', e, R, s, m, args, below, meth, c, Q, A, nL', tg⟩ := Γ
  obtain ⟨-, -, -, hx, hb, hml, hown, hts, hK, hD, hA, hN, hZ⟩ := h
  exact fun q hq ht' hct ls H locs hh hP hS => lv_lookup hx hb hdg hp ho ht (kk q hq ht' hct ls H locs hh hP hS)
theorem g_ldc (h : CxOk Γ l rm nL ω L cc own ws) {index : Nat} (v : Int32) (hdg : decode cc pc = .ok (.ldc index, 2)) (hc : Cond.constant own index v ∈ ws) (kk : Gq ct Γ ω L em (pc + 2) lv (.int v :: st) x X) : Gq ct Γ ω L em pc lv st x X := by
  obtain ⟨p, l', e, R, s, m, args, below, meth, c, Q, A, nL', tg⟩ := Γ
  obtain ⟨-, -, -, hx, hb, hml, hown, hts, hK, hD, hA, hN, hZ⟩ := h
  exact fun q hq ht' hct ls H locs hh hP hS => lv_ldc hx hb hown (hts _ hc) hdg (kk q hq ht' hct ls H locs hh hP hS)
end ROWS
/-! CONTRACTS -/
def PreW (ω : Wd) (L : Ly) (av : List Value) (M : Mm) (sz : Nat) : Array Value → State → Prop := va_Pc av (fun U => U.heap.size = sz ∧ va_P ω.1 vwCl (wW ω L M) U.heap ∧ va_K ω.1 vwCl (tyW ω) U ∧ Apart ω L ∧ Nst U)
def PostI (ω : Wd) (L : Ly) (r : Int32) (M : Mm) (sz : Nat) : Array Value → State → Outcome → State → Prop := va_Qi (fun (q : Int32) (_ : Unit) => q = r) (fun _ t => va_P ω.1 vwCl (wW ω L M) t.heap) (aW ω L sz)
def PostV (ω : Wd) (L : Ly) (M : Mm) (sz : Nat) : Array Value → State → Outcome → State → Prop := va_Qv (fun (_ : Unit) => True) (fun _ t => va_P ω.1 vwCl (wW ω L M) t.heap) (aW ω L sz)
def PostF (ω : Wd) (L : Ly) (r : Int32) (M : Mm) (sz : Nat) : Array Value → State → Outcome → State → Prop := va_Qf (fun (q : UInt32) (_ : Unit) => q = r.toUInt32) (fun _ t => va_P ω.1 vwCl (wW ω L M) t.heap) (aW ω L sz)
def MI (l : Launch) (y : MethodName) (ws : List Cond) (rm : Room) (ω : Wd) (L : Ly) (av : List Value) (M : Mm) (r : Int32) (M' : Mm) : Prop := ∀ sz : Nat, Met l y ws rm (PreW ω L av M sz) (PostI ω L r M' sz) rm.cells rm.slots (aW ω L sz)
def MV (l : Launch) (y : MethodName) (ws : List Cond) (rm : Room) (ω : Wd) (L : Ly) (av : List Value) (M : Mm) (M' : Mm) : Prop := ∀ sz : Nat, Met l y ws rm (PreW ω L av M sz) (PostV ω L M' sz) rm.cells rm.slots (aW ω L sz)
def MF (l : Launch) (y : MethodName) (ws : List Cond) (rm : Room) (ω : Wd) (L : Ly) (av : List Value) (M : Mm) (r : Int32) (M' : Mm) : Prop := ∀ sz : Nat, Met l y ws rm (PreW ω L av M sz) (PostF ω L r M' sz) rm.cells rm.slots (aW ω L sz)
theorem PreW_blind {ω : Wd} {L : Ly} {av : List Value} {M : Mm} {sz : Nat} : FrameBlind (PreW ω L av M sz) := fun a U g mk q => by
  obtain ⟨q0, q1, qP, qK, qD, qZ⟩ := q
  exact ⟨q0, q1, qP, va_K.moved (u := U) (U := U.calling g mk a) (Vm.Alike.refl U.vm) qK, qD, va_Nw.same rfl rfl qZ⟩
theorem aW_S {ω : Wd} {L : Ly} {A : Nat → Prop} {H0 H : Heap} {locs : List Loc} (hD : ∀ q ∈ L.1, A (th ω q.1 q.2)) (hA : ∀ q, H0.size ≤ q → A q) (hS : va_S A H0 H locs) : ∀ q, aW ω L H.size q → A q := by
  intro q h
  rcases h with ⟨i, hi, rfl⟩ | h
  · exact hD i hi
  · exact hA q (Nat.le_trans hS.1 h)
section ENTRY
variable {l : Launch} {y : MethodName} {ws ws' : List Cond} {rm : Room} {cc : ByteArray} {maxL : Nat} {ty : FieldType} {ω : Wd} {L : Ly} {av : List Value} {M M' : Mm} {r : Int32}
set_option maxHeartbeats 4000000 in
theorem met_i (hy : plainName y.cls = true) (hw : ws = Cond.code y cc maxL (some ty) :: ws') (hav : (lg_sl av).length ≤ maxL) (hN : L.1.Nodup)
    (body : ∀ Γ : Cx, CxOk Γ l rm maxL ω L cc y.cls ws → RetI Γ ω L cc ty → gT Γ = (r, M') → Vr 0 Γ ω L 0 (lv_args 0 av) [] M) : MI l y ws rm ω L av M r M' := by
  intro sz
  refine Met.ofW (cc := cc) (maxL := maxL) (ret := some ty) hy hw ?_
  intro p e s m args below meth c s₁ B hml hv
  obtain ⟨rfl, hsz, hP, hK, hD, hZ⟩ := hv
  subst hsz
  have hts := atoms_spec (ws := ws) B.pre
  have hlocks := B.notSynchronized
  have hl := lv_entry av (n := maxL) hav
  rw [lg_entry_eq]
  refine body (p, l, e, rm, s, m, av.toArray, below, meth, c, MQ below (PostI ω L r M' s.heap.size) av.toArray s rm.cells rm.slots (aW ω L s.heap.size), aW ω L s.heap.size, maxL, (r, M')) ⟨rfl, rfl, rfl, B.exec, B.bytes, hml, findClass_of_methodNamed B.named, hts, hK, ⟨hD, fun q hq => Or.inl ⟨q, hq, rfl⟩⟩, fun q hq => Or.inr hq, hN, hZ⟩ ?_ rfl _ s.heap [] hl hP va_S.rf
  intro ct pc ls H locs hct hdg hn hP1 hS1
  refine W.widen hct.1 hct.2 ?_
  exact W.zret B.exec B.bytes B.returns hn (fun t ht hW => ⟨⟨r, (), rfl, rfl, by show va_P _ _ _ t.heap; rw [ht]; exact hP1⟩, hS1.F ht⟩) hS1.2.2 hdg hlocks
set_option maxHeartbeats 4000000 in
theorem met_v (hy : plainName y.cls = true) (hw : ws = Cond.code y cc maxL none :: ws') (hav : (lg_sl av).length ≤ maxL) (hN : L.1.Nodup)
    (body : ∀ Γ : Cx, CxOk Γ l rm maxL ω L cc y.cls ws → RetV Γ ω L cc → gT Γ = (r, M') → Vr 0 Γ ω L 0 (lv_args 0 av) [] M) : MV l y ws rm ω L av M M' := by
  intro sz
  refine Met.ofW (cc := cc) (maxL := maxL) (ret := none) hy hw ?_
  intro p e s m args below meth c s₁ B hml hv
  obtain ⟨rfl, hsz, hP, hK, hD, hZ⟩ := hv
  subst hsz
  have hts := atoms_spec (ws := ws) B.pre
  have hlocks := B.notSynchronized
  have hl := lv_entry av (n := maxL) hav
  rw [lg_entry_eq]
  refine body (p, l, e, rm, s, m, av.toArray, below, meth, c, MQ below (PostV ω L M' s.heap.size) av.toArray s rm.cells rm.slots (aW ω L s.heap.size), aW ω L s.heap.size, maxL, (r, M')) ⟨rfl, rfl, rfl, B.exec, B.bytes, hml, findClass_of_methodNamed B.named, hts, hK, ⟨hD, fun q hq => Or.inl ⟨q, hq, rfl⟩⟩, fun q hq => Or.inr hq, hN, hZ⟩ ?_ rfl _ s.heap [] hl hP va_S.rf
  intro ct pc ls H locs hct hdg hP1 hS1
  refine W.widen hct.1 hct.2 ?_
  exact W.vret B.exec B.bytes B.returns (fun t ht hW => ⟨⟨(), rfl, trivial, by show va_P _ _ _ t.heap; rw [ht]; exact hP1⟩, hS1.F ht⟩) hS1.2.2 hdg hlocks
set_option maxHeartbeats 4000000 in
theorem met_f (hy : plainName y.cls = true) (hw : ws = Cond.code y cc maxL (some .float) :: ws') (hav : (lg_sl av).length ≤ maxL) (hN : L.1.Nodup)
    (body : ∀ Γ : Cx, CxOk Γ l rm maxL ω L cc y.cls ws → RetF Γ ω L cc → gT Γ = (r, M') → Vr 0 Γ ω L 0 (lv_args 0 av) [] M) : MF l y ws rm ω L av M r M' := by
  intro sz
  refine Met.ofW (cc := cc) (maxL := maxL) (ret := some .float) hy hw ?_
  intro p e s m args below meth c s₁ B hml hv
  obtain ⟨rfl, hsz, hP, hK, hD, hZ⟩ := hv
  subst hsz
  have hts := atoms_spec (ws := ws) B.pre
  have hlocks := B.notSynchronized
  have hl := lv_entry av (n := maxL) hav
  rw [lg_entry_eq]
  refine body (p, l, e, rm, s, m, av.toArray, below, meth, c, MQ below (PostF ω L r M' s.heap.size) av.toArray s rm.cells rm.slots (aW ω L s.heap.size), aW ω L s.heap.size, maxL, (r, M')) ⟨rfl, rfl, rfl, B.exec, B.bytes, hml, findClass_of_methodNamed B.named, hts, hK, ⟨hD, fun q hq => Or.inl ⟨q, hq, rfl⟩⟩, fun q hq => Or.inr hq, hN, hZ⟩ ?_ rfl _ s.heap [] hl hP va_S.rf
  intro ct pc ls H locs hct hdg hP1 hS1
  refine W.widen hct.1 hct.2 ?_
  exact W.fret B.exec B.bytes B.returns (fun t ht hW => ⟨⟨_, (), rfl, rfl, by show va_P _ _ _ t.heap; rw [ht]; exact hP1⟩, hS1.F ht⟩) hS1.2.2 hdg hlocks
end ENTRY
section CALLS
variable {ct : Nat} {σ τ : Type} {Γ : Cx} {l : Launch} {rm : Room} {nL : Nat} {ω : Wd} {L : Ly} {cc : ByteArray} {own : String} {ws : List Cond} {em : σ → Mm} {pc : Nat} {lv : List (Nat × Value)} {st : List Value} {x : σ} {X Y : Option (Int32 × σ)}
set_option maxHeartbeats 4000000 in
/-- a method of an object that answers an int -/
theorem g_callI (h : CxOk Γ l rm nL ω L cc own ws) {C : String} {T : u_T} {N ci k a index maxL : Nat} {ty : FieldType} {fs : List (Option (Nat × Nat))} {y : MethodName} {ws2 ws2' : List Cond} {rm2 : Room} {bytes : ByteArray} {As : List Value} {G : Option (Int32 × τ)} {F : Int32 → τ → Option (Int32 × σ)} (up : τ → σ)
    (hM : ∀ r t, G = some (r, t) → MI l y ws2 rm2 ω L (.ref (th ω k a) :: As) (em x) r (em (up t))) (hc : inL L k a (0, ci, fs)) (hcl : vwCl[ci]? = some (C, T, N)) (n : Nat) (hn : As.length = n) (hT : GoodIn ws (wsV own index C y ws2)) (hw : ws2 = Cond.code y bytes maxL (some ty) :: ws2') (hrc : rm2.cells = 0) (hrs : rm2.slots = 0)
    (hd : y.cls = C ∧ y.cls ≠ "java/lang/invoke/MethodHandle" ∧ y.cls ≠ "java/lang/invoke/VarHandle" ∧ (parseMethodDescriptor y.desc).map (fun d => d.parameters.length) = some n) (hRm : rm2.frames + 1 ≤ rm.frames ∧ 8 + (maxL + 11) + rm2.locals ≤ rm.locals) {st0 : List Value} (hst : st0 = As.reverse ++ .ref (th ω k a) :: st) (hsum : (st.map fun v => v.category).sum ≤ 8) (hdg : decode cc pc = .ok (.invokevirtual index, 3))
    (kk : ∀ r t, Gq ct Γ ω L em (pc + 3) lv (.int r :: st) (up t) (F r t)) : Gq ct Γ ω L em pc lv st0 x (bnd G F) := by
  intro q hq ht hct
  obtain ⟨r0, t0, hG, hF⟩ := bnd_some hq
  have hM0 := hM r0 t0 hG
  have kk0 := kk r0 t0 q hF ht hct
  obtain ⟨p, l', e, R, s, m, args, below, meth, c, Q, A, nL', tgt⟩ := Γ
  obtain ⟨hll, hR, hnL, hx, hb, hml, hown, hts, hK, hD, hA, hN, hZ⟩ := h
  subst hll; subst hR; subst hnL
  intro ls H locs hh hP hS
  obtain ⟨p0, hp0, hp⟩ := wW_get (ω := ω) (M := em x) hc
  refine va_calli (va_runV (As := As) (rest := st) ⟨hx, hb, hml, hown, hts⟩ (hM0 H.size) (cwV n hts hT hw rfl rfl hd hRm) ⟨PreW_blind, va_recv hK hP hcl hp, fun U hU hW => ⟨rfl, by rw [hU], by rw [hU]; exact hP, va_K.moved hW.alike hK, hD.1, va_Nw.warmM hW hZ⟩⟩ rfl hn hh.1 hst (lv_room hsum) hdg ⟨by rw [hrc]; exact hct.1, by rw [hrs]; exact hct.2⟩) hS (fun q _ h => aW_S hD.2 hA hS q h) (aW_S hD.2 hA hS) (fun r u t H1 locs1 ht1 hvm hw hB hz1 hk1 hS1 => ?_)
  subst hw
  rw [ht1] at hB
  rw [hrc, hrs]
  exact kk0 ls H1 locs1 hh hB hS1
set_option maxHeartbeats 4000000 in
/-- a method of an object that answers nothing -/
theorem g_callV (h : CxOk Γ l rm nL ω L cc own ws) {C : String} {T : u_T} {N ci k a index maxL : Nat} {fs : List (Option (Nat × Nat))} {y : MethodName} {ws2 ws2' : List Cond} {rm2 : Room} {bytes : ByteArray} {As : List Value} {G : Option (Int32 × τ)} {F : Int32 → τ → Option (Int32 × σ)} (up : τ → σ)
    (hM : ∀ r t, G = some (r, t) → MV l y ws2 rm2 ω L (.ref (th ω k a) :: As) (em x) (em (up t))) (hc : inL L k a (0, ci, fs)) (hcl : vwCl[ci]? = some (C, T, N)) (n : Nat) (hn : As.length = n) (hT : GoodIn ws (wsV own index C y ws2)) (hw : ws2 = Cond.code y bytes maxL none :: ws2') (hrc : rm2.cells = 0) (hrs : rm2.slots = 0)
    (hd : y.cls = C ∧ y.cls ≠ "java/lang/invoke/MethodHandle" ∧ y.cls ≠ "java/lang/invoke/VarHandle" ∧ (parseMethodDescriptor y.desc).map (fun d => d.parameters.length) = some n) (hRm : rm2.frames + 1 ≤ rm.frames ∧ 8 + (maxL + 11) + rm2.locals ≤ rm.locals) {st0 : List Value} (hst : st0 = As.reverse ++ .ref (th ω k a) :: st) (hsum : (st.map fun v => v.category).sum ≤ 8) (hdg : decode cc pc = .ok (.invokevirtual index, 3))
    (kk : ∀ r t, Gq ct Γ ω L em (pc + 3) lv st (up t) (F r t)) : Gq ct Γ ω L em pc lv st0 x (bnd G F) := by
  intro q hq ht hct
  obtain ⟨r0, t0, hG, hF⟩ := bnd_some hq
  have hM0 := hM r0 t0 hG
  have kk0 := kk r0 t0 q hF ht hct
  obtain ⟨p, l', e, R, s, m, args, below, meth, c, Q, A, nL', tgt⟩ := Γ
  obtain ⟨hll, hR, hnL, hx, hb, hml, hown, hts, hK, hD, hA, hN, hZ⟩ := h
  subst hll; subst hR; subst hnL
  intro ls H locs hh hP hS
  obtain ⟨p0, hp0, hp⟩ := wW_get (ω := ω) (M := em x) hc
  refine va_callv (va_runV (As := As) (rest := st) ⟨hx, hb, hml, hown, hts⟩ (hM0 H.size) (cwV n hts hT hw rfl rfl hd hRm) ⟨PreW_blind, va_recv hK hP hcl hp, fun U hU hW => ⟨rfl, by rw [hU], by rw [hU]; exact hP, va_K.moved hW.alike hK, hD.1, va_Nw.warmM hW hZ⟩⟩ rfl hn hh.1 hst (lv_room hsum) hdg ⟨by rw [hrc]; exact hct.1, by rw [hrs]; exact hct.2⟩) hS (fun q _ h => aW_S hD.2 hA hS q h) (aW_S hD.2 hA hS) (fun u t H1 locs1 ht1 hvm hw hB hz1 hk1 hS1 => ?_)
  rw [ht1] at hB
  rw [hrc, hrs]
  exact kk0 ls H1 locs1 hh hB hS1
set_option maxHeartbeats 4000000 in
/-- a static method of numbers alone -/
theorem g_callP (h : CxOk Γ l rm nL ω L cc own ws) {index maxL : Nat} {ty : FieldType} {y : MethodName} {ws2 ws2' : List Cond} {rm2 : Room} {bytes : ByteArray} {As : List Value} {G : Option (Int32 × Mm)} {F : Int32 → Option (Int32 × σ)}
    (hM : ∀ r t, G = some (r, t) → MI l y ws2 rm2 ω L00 As M00 r t) (n : Nat) (hn : As.length = n) (hT : GoodIn ws (va_wsS own index y ws2)) (hw : ws2 = Cond.code y bytes maxL (some ty) :: ws2') (hrc : rm2.cells = 0) (hrs : rm2.slots = 0)
    (hd : y.cls ≠ "java/lang/invoke/MethodHandle" ∧ y.cls ≠ "java/lang/invoke/VarHandle" ∧ (parseMethodDescriptor y.desc).map (fun d => d.parameters.length) = some n) (hRm : rm2.frames + 1 ≤ rm.frames ∧ 8 + (maxL + 11) + rm2.locals ≤ rm.locals) {st0 : List Value} (hst : st0 = As.reverse ++ st) (hsum : (st.map fun v => v.category).sum ≤ 8) (hdg : decode cc pc = .ok (.invokestatic index, 3))
    (kk : ∀ r, Gq ct Γ ω L em (pc + 3) lv (.int r :: st) x (F r)) : Gq ct Γ ω L em pc lv st0 x (bnd G (fun r _ => F r)) := by
  intro q hq ht hct
  obtain ⟨r0, t0, hG, hF⟩ := bnd_some hq
  have hM0 := hM r0 t0 hG
  have kk0 := kk r0 q hF ht hct
  obtain ⟨p, l', e, R, s, m, args, below, meth, c, Q, A, nL', tgt⟩ := Γ
  obtain ⟨hll, hR, hnL, hx, hb, hml, hown, hts, hK, hD, hA, hN, hZ⟩ := h
  subst hll; subst hR; subst hnL
  intro ls H locs hh hP hS
  have h00 : ∀ q, aW ω L00 H.size q → H.size ≤ q := by
    rintro q (⟨i, hi, -⟩ | hq)
    · cases hi
    · exact hq
  refine va_calli (va_runS (As := As) (rest := st) ⟨hx, hb, hml, hown, hts⟩ (hM0 H.size) (va_cwS n hts hT hw rfl rfl hd hRm) ⟨PreW_blind, fun U hU hW => ⟨rfl, by rw [hU], (fun k q hk => by simp [wW, L00] at hk), va_K.moved hW.alike hK, (fun i j p q hi => by simp [L00] at hi), va_Nw.warmM hW hZ⟩⟩ rfl hn hh.1 hst (lv_room hsum) hdg ⟨by rw [hrc]; exact hct.1, by rw [hrs]; exact hct.2⟩) hS (fun q hl h => absurd hl (Nat.not_lt.mpr (h00 q h))) (fun q h => hA q (Nat.le_trans hS.1 (h00 q h))) (fun r u t H1 locs1 ht1 hvm hw hB hz1 hk1 hS1 => ?_)
  subst hw
  rw [hrc, hrs]
  refine kk0 ls H1 locs1 hh (hP.kept (fun k q hk => hk1 q.1 (hP k q hk).lt (fun h => absurd (hP k q hk).lt (Nat.not_lt.mpr (h00 _ h))))) hS1
set_option maxHeartbeats 4000000 in
/-- a static method of numbers alone, of a nest mate -/
theorem g_callPN (h : CxOk Γ l rm nL ω L cc own ws) {index maxL : Nat} {host : String} {ty : FieldType} {y : MethodName} {ws2 ws2' : List Cond} {rm2 : Room} {bytes : ByteArray} {As : List Value} {G : Option (Int32 × Mm)} {F : Int32 → Option (Int32 × σ)}
    (hM : ∀ r t, G = some (r, t) → MI l y ws2 rm2 ω L00 As M00 r t) (n : Nat) (hn : As.length = n) (hT : GoodIn ws ws2) (hw : ws2 = Cond.code y bytes maxL (some ty) :: ws2') (hini : Cond.initialized y.cls ∈ ws) (hstt : Cond.static y ∈ ws) (hnx : ∀ U, Nst U → va_Nw (.methodLinkNest own index y host) U) (hrc : rm2.cells = 0) (hrs : rm2.slots = 0)
    (hd : y.cls ≠ "java/lang/invoke/MethodHandle" ∧ y.cls ≠ "java/lang/invoke/VarHandle" ∧ (parseMethodDescriptor y.desc).map (fun d => d.parameters.length) = some n) (hRm : rm2.frames + 1 ≤ rm.frames ∧ 8 + (maxL + 11) + rm2.locals ≤ rm.locals) {st0 : List Value} (hst : st0 = As.reverse ++ st) (hsum : (st.map fun v => v.category).sum ≤ 8) (hdg : decode cc pc = .ok (.invokestatic index, 3))
    (kk : ∀ r, Gq ct Γ ω L em (pc + 3) lv (.int r :: st) x (F r)) : Gq ct Γ ω L em pc lv st0 x (bnd G (fun r _ => F r)) := by
  intro q hq ht hct
  obtain ⟨r0, t0, hG, hF⟩ := bnd_some hq
  have hM0 := hM r0 t0 hG
  have kk0 := kk r0 q hF ht hct
  obtain ⟨p, l', e, R, s, m, args, below, meth, c, Q, A, nL', tgt⟩ := Γ
  obtain ⟨hll, hR, hnL, hx, hb, hml, hown, hts, hK, hD, hA, hN, hZ⟩ := h
  subst hll; subst hR; subst hnL
  intro ls H locs hh hP hS
  have h00 : ∀ q, aW ω L00 H.size q → H.size ≤ q := by
    rintro q (⟨i, hi, -⟩ | hq)
    · cases hi
    · exact hq
  refine va_calli (va_runSN (host := host) (As := As) (rest := st) ⟨hx, hb, hml, hown, hts⟩ (hM0 H.size) ⟨va_cnB n hts hT hw rfl rfl (hnx _ hZ) (hts _ hini) hd hRm, hts _ hstt, trivial⟩ ⟨PreW_blind, fun U hU hW => ⟨rfl, by rw [hU], (fun k q hk => by simp [wW, L00] at hk), va_K.moved hW.alike hK, (fun i j p q hi => by simp [L00] at hi), va_Nw.warmM hW hZ⟩⟩ rfl hn hh.1 hst (lv_room hsum) hdg ⟨by rw [hrc]; exact hct.1, by rw [hrs]; exact hct.2⟩) hS (fun q hl h => absurd hl (Nat.not_lt.mpr (h00 q h))) (fun q h => hA q (Nat.le_trans hS.1 (h00 q h))) (fun r u t H1 locs1 ht1 hvm hw hB hz1 hk1 hS1 => ?_)
  subst hw
  rw [hrc, hrs]
  refine kk0 ls H1 locs1 hh (hP.kept (fun k q hk => hk1 q.1 (hP k q hk).lt (fun h => absurd (hP k q hk).lt (Nat.not_lt.mpr (h00 _ h))))) hS1
end CALLS

/-! THE TWO WORLDS. The game: block 0 the face's own object, 1 to 8 the states (1 now, 2 snapshot, 3 trial, 4 to 8 the history's), 9 the script, 10 the draws, 11 the row, 12 the history. The reference: one block. -/
def shS (k : Nat) : Nat → Sh := fun a => match a with
  | 0 => (0, 4, [some (k, 1), some (k, 2), some (k, 3), some (k, 4), some (k, 5), some (k, 6), some (k, 7), some (k, 8), some (k, 9), some (k, 10), none, none, none])
  | 1 => (1, 6, [])
  | 2 => (1, 6, [])
  | _ => (1, 30, [])
def shC : Nat → Nat → Sh := fun k => match k with
  | 0 => fun _ => (0, 5, [some (1, 0), some (2, 0), some (3, 0), some (12, 0), some (9, 0), some (10, 0), some (11, 0), none])
  | 9 => fun a => match a with
    | 0 => (0, 3, [some (9, 1), none, none, none, none, none, none])
    | _ => (2, 60, [])
  | 10 => fun _ => (0, 0, [none])
  | 11 => fun a => match a with
    | 0 => (0, 2, [some (11, 1), none])
    | _ => (1, 6, [])
  | 12 => fun a => match a with
    | 0 => (0, 1, [some (12, 1), none])
    | _ => (3, 5, [])
  | k => shS k
def idS (k : Nat) : List (Nat × Nat) := [(k, 0), (k, 1), (k, 2), (k, 3), (k, 4), (k, 5), (k, 6), (k, 7), (k, 8), (k, 9), (k, 10)]
def idC : List (Nat × Nat) := [(0, 0), (9, 0), (9, 1), (10, 0), (11, 0), (11, 1), (12, 0), (12, 1)] ++ (idS 1 ++ (idS 2 ++ (idS 3 ++ (idS 4 ++ (idS 5 ++ (idS 6 ++ (idS 7 ++ idS 8)))))))
def LC : Ly := (idC, shC)
theorem LC_nd : LC.1.Nodup := by decide +kernel
theorem L00_nd : L00.1.Nodup := List.nodup_nil
/-- the blocks that are states -/
def kS (k : Nat) : Prop := 1 ≤ k ∧ k ≤ 8
theorem kS1 : kS 1 := ⟨by decide, by decide⟩
theorem kS2 : kS 2 := ⟨by decide, by decide⟩
theorem kS3 : kS 3 := ⟨by decide, by decide⟩
theorem kS_cases {k : Nat} (h : kS k) : k = 1 ∨ k = 2 ∨ k = 3 ∨ k = 4 ∨ k = 5 ∨ k = 6 ∨ k = 7 ∨ k = 8 := by
  obtain ⟨h1, h2⟩ := h
  omega
theorem inS {k : Nat} (h : kS k) (a : Nat) (ha : a < 11) : inL LC k a (shS k a) := by
  refine ⟨?_, ?_⟩
  · have hk := kS_cases h
    have e : ((List.range 9).all fun k => (List.range 11).all fun a => decide (k = 0) || decide ((k, a) ∈ idC)) = true := by decide +kernel
    have e1 := List.all_eq_true.mp (List.all_eq_true.mp e k (List.mem_range.mpr (by have := h.2; omega))) a (List.mem_range.mpr ha)
    have h1 := h.1
    simp only [Bool.or_eq_true, decide_eq_true_eq] at e1
    rcases e1 with e1 | e1
    · omega
    · exact e1
  · rcases kS_cases h with rfl | rfl | rfl | rfl | rfl | rfl | rfl | rfl <;> rfl
def sb (v : Int32) : Bool := decide (1 ≤ v.toNatClampNeg) && decide (v.toNatClampNeg ≤ 8)
theorem sb_k {v : Int32} (h : sb v = true) : kS v.toNatClampNeg := by
  simp only [sb, Bool.and_eq_true, decide_eq_true_eq] at h
  exact h
theorem iC_0_0 : inL LC 0 0 (shC 0 0) := ⟨by decide +kernel, rfl⟩
theorem iC_9_0 : inL LC 9 0 (shC 9 0) := ⟨by decide +kernel, rfl⟩
theorem iC_9_1 : inL LC 9 1 (shC 9 1) := ⟨by decide +kernel, rfl⟩
theorem iC_10_0 : inL LC 10 0 (shC 10 0) := ⟨by decide +kernel, rfl⟩
theorem iC_11_0 : inL LC 11 0 (shC 11 0) := ⟨by decide +kernel, rfl⟩
theorem iC_11_1 : inL LC 11 1 (shC 11 1) := ⟨by decide +kernel, rfl⟩
theorem iC_12_0 : inL LC 12 0 (shC 12 0) := ⟨by decide +kernel, rfl⟩
theorem iC_12_1 : inL LC 12 1 (shC 12 1) := ⟨by decide +kernel, rfl⟩
abbrev eI : Mm → Mm := fun M => M
theorem uMr (M : Mm) (k : Nat) (T : Tm) (a i : Nat) : uM M k T k a i = T a i := by rw [uM_same]
theorem nb_n {v : Int32} (h : nb .char v = true) : narrow .char (.int v) = .int v := by
  have e : vp_nar .char v = v := of_decide_eq_true h
  show Value.int (vp_nar .char v) = .int v
  rw [e]
theorem nb_f {v : Int32} (h : nb .char v = true) : fits .char (.int v) = true := by
  have e : vp_nar .char v = v := of_decide_eq_true h
  rw [← e, vp_nar_char]
  obtain ⟨n, hn, e2⟩ : ∃ n : Nat, n < 65536 ∧ v.toUInt32.toUInt16.toUInt32.toInt32 = nI n := by
    refine ⟨v.toUInt32.toUInt16.toNat, v.toUInt32.toUInt16.toNat_lt, ?_⟩
    apply Int32.toBitVec_inj.mp
    apply BitVec.eq_of_toNat_eq
    rw [pk_tn (by have := v.toUInt32.toUInt16.toNat_lt; omega)]
    simp
    rfl
  rw [e2]
  exact (pk_charN hn).2
/-- fuel: more than any loop turns -/
def fu : Nat := 1000
theorem MI_self {l : Launch} {y : MethodName} {ws : List Cond} {rm : Room} {ω : Wd} {L : Ly} {av : List Value} {M M' : Mm} {k : Nat} {r : Int32} (h : MI l y ws rm ω L av (uM M k (M k)) r M') : MI l y ws rm ω L av M r M' := by rwa [uM_self] at h
theorem MV_self {l : Launch} {y : MethodName} {ws : List Cond} {rm : Room} {ω : Wd} {L : Ly} {av : List Value} {M M' : Mm} {k : Nat} (h : MV l y ws rm ω L av (uM M k (M k)) M') : MV l y ws rm ω L av M M' := by rwa [uM_self] at h
end
section
/-! MORE ROWS: longs, comparisons, static calls over the world, calls that make cells, the law's own row of counts -/
theorem wW_off {ω : Wd} {L : Ly} {M M' : Mm} (h : ∀ q ∈ L.1, M' q.1 = M q.1) : wW ω L M' = wW ω L M := by
  unfold wW
  apply List.map_congr_left
  intro q hq
  rw [h q hq]
def enc (h : Int64) : Tm := fun _ i => if i = h.toUInt64.toNat then 1 else 0
theorem enc_inj {a b : Int64} (h : enc a = enc b) : a = b := by
  have e := congrFun (congrFun h 0) a.toUInt64.toNat
  simp only [enc, if_true] at e
  by_cases q : a.toUInt64.toNat = b.toUInt64.toNat
  · have e1 : a.toUInt64 = b.toUInt64 := UInt64.toNat_inj.mp q
    have e2 := congrArg UInt64.toInt64 e1
    simpa using e2
  · rw [if_neg q] at e
    exact absurd e (by decide)
/-- the long that a memory keeps for an end -/
noncomputable def dec (M : Mm) : Int64 := Classical.epsilon (fun h => M 99 = enc h)
theorem dec_enc (M : Mm) (h : Int64) : dec (uM M 99 (enc h)) = h := by
  have e : (uM M 99 (enc h)) 99 = enc (dec (uM M 99 (enc h))) := Classical.epsilon_spec (p := fun z => (uM M 99 (enc h)) 99 = enc z) ⟨h, uM_same M 99 (enc h)⟩
  rw [uM_same] at e
  exact (enc_inj e).symm
def RetJ (Γ : Cx) (ω : Wd) (L : Ly) (cc : ByteArray) : Prop := ∀ (ct pc : Nat) (ls : Array Slot) (H : Heap) (locs : List Loc), CtOk Γ ct → decode cc pc = .ok (.lreturn, 1) → va_P ω.1 vwCl (wW ω L (gT Γ).2) H → va_S (gA Γ) (gs Γ).heap H locs → WC ct Γ H locs (F0 (gm Γ) pc ls [.long (dec (gT Γ).2)])
section ROWS2
variable {ct : Nat} {σ τ : Type} {Γ : Cx} {l : Launch} {rm : Room} {nL : Nat} {ω : Wd} {L : Ly} {cc : ByteArray} {own : String} {ws : List Cond} {em : σ → Mm} {pc : Nat} {lv : List (Nat × Value)} {st : List Value} {x : σ} {X Y : Option (Int32 × σ)}
theorem g_nj {e : Int64} {F : Int64 → Option (Int32 × σ)} (k : ∀ v, Gq ct Γ ω L em pc lv (.long v :: st) x (F v)) : Gq ct Γ ω L em pc lv (.long e :: st) x (nm e F) := k e
theorem g_nf {e : UInt32} {F : UInt32 → Option (Int32 × σ)} (k : ∀ v, Gq ct Γ ω L em pc lv (.float v :: st) x (F v)) : Gq ct Γ ω L em pc lv (.float e :: st) x (nm e F) := k e
theorem g_ct {ct' : Nat} (h : ct' = ct) (k : Gq ct Γ ω L em pc lv st x X) : Gq ct' Γ ω L em pc lv st x X := h ▸ k
theorem g_ishr (h : CxOk Γ l rm nL ω L cc own ws) {a b : Int32} (hdg : decode cc pc = .ok (.ishr, 1))
     (k : Gq ct Γ ω L em (pc + 1) lv (.int (a >>> (b &&& 31)) :: st) x X) : Gq ct Γ ω L em pc lv (.int b :: .int a :: st) x X := by
  obtain ⟨p, l', e, R, s, m, args, below, meth, c, Q, A, nL', tgt⟩ := Γ
  obtain ⟨-, -, hnL, hx, hb, hml, hown, hts, hK, hD, hA, hN, hZ⟩ := h
  exact fun q hq ht hct ls H locs hh hP hS => lv_ishr hx hb hdg (k q hq ht hct ls H locs hh hP hS)
theorem g_ldc2 (h : CxOk Γ l rm nL ω L cc own ws) {index : Nat} (v : Int64) (hdg : decode cc pc = .ok (.ldc2_w index, 3)) (hc : Cond.constantLong own index v ∈ ws) (kk : Gq ct Γ ω L em (pc + 3) lv (.long v :: st) x X) : Gq ct Γ ω L em pc lv st x X := by
  obtain ⟨p, l', e, R, s, m, args, below, meth, c, Q, A, nL', tg⟩ := Γ
  obtain ⟨-, -, -, hx, hb, hml, hown, hts, hK, hD, hA, hN, hZ⟩ := h
  exact fun q hq ht' hct ls H locs hh hP hS => lv_ldc2 hx hb hown (hts _ hc) hdg (kk q hq ht' hct ls H locs hh hP hS)
theorem g_i2l (h : CxOk Γ l rm nL ω L cc own ws) {a : Int32} (hdg : decode cc pc = .ok (.i2l, 1))
     (k : Gq ct Γ ω L em (pc + 1) lv (.long a.toInt64 :: st) x X) : Gq ct Γ ω L em pc lv (.int a :: st) x X := by
  obtain ⟨p, l', e, R, s, m, args, below, meth, c, Q, A, nL', tgt⟩ := Γ
  obtain ⟨-, -, hnL, hx, hb, hml, hown, hts, hK, hD, hA, hN, hZ⟩ := h
  exact fun q hq ht hct ls H locs hh hP hS => lv_i2l hx hb hdg rfl (k q hq ht hct ls H locs hh hP hS)
theorem g_ladd (h : CxOk Γ l rm nL ω L cc own ws) {a b : Int64} (hdg : decode cc pc = .ok (.ladd, 1))
     (k : Gq ct Γ ω L em (pc + 1) lv (.long (a + b) :: st) x X) : Gq ct Γ ω L em pc lv (.long b :: .long a :: st) x X := by
  obtain ⟨p, l', e, R, s, m, args, below, meth, c, Q, A, nL', tgt⟩ := Γ
  obtain ⟨-, -, hnL, hx, hb, hml, hown, hts, hK, hD, hA, hN, hZ⟩ := h
  exact fun q hq ht hct ls H locs hh hP hS => lv_ladd hx hb hdg (k q hq ht hct ls H locs hh hP hS)
theorem g_lmul (h : CxOk Γ l rm nL ω L cc own ws) {a b : Int64} (hdg : decode cc pc = .ok (.lmul, 1))
     (k : Gq ct Γ ω L em (pc + 1) lv (.long (a * b) :: st) x X) : Gq ct Γ ω L em pc lv (.long b :: .long a :: st) x X := by
  obtain ⟨p, l', e, R, s, m, args, below, meth, c, Q, A, nL', tgt⟩ := Γ
  obtain ⟨-, -, hnL, hx, hb, hml, hown, hts, hK, hD, hA, hN, hZ⟩ := h
  exact fun q hq ht hct ls H locs hh hP hS => lv_lmul hx hb hdg (k q hq ht hct ls H locs hh hP hS)
theorem g_lcmp (h : CxOk Γ l rm nL ω L cc own ws) {a b : Int64} (hdg : decode cc pc = .ok (.lcmp, 1))
     (k : Gq ct Γ ω L em (pc + 1) lv (.int (lg_cmp a b) :: st) x X) : Gq ct Γ ω L em pc lv (.long b :: .long a :: st) x X := by
  obtain ⟨p, l', e, R, s, m, args, below, meth, c, Q, A, nL', tgt⟩ := Γ
  obtain ⟨-, -, hnL, hx, hb, hml, hown, hts, hK, hD, hA, hN, hZ⟩ := h
  exact fun q hq ht hct ls H locs hh hP hS => W.lcmp hx hb hdg (k q hq ht hct ls H locs hh hP hS)
theorem g_fcmp (h : CxOk Γ l rm nL ω L cc own ws) {a b : UInt32} {op : CmpOp} (hdg : decode cc pc = .ok (.fcmp op, 1))
     (k : Gq ct Γ ω L em (pc + 1) lv (.int (Op.cmpValue (FP.fcmp a b) op) :: st) x X) : Gq ct Γ ω L em pc lv (.float b :: .float a :: st) x X := by
  obtain ⟨p, l', e, R, s, m, args, below, meth, c, Q, A, nL', tgt⟩ := Γ
  obtain ⟨-, -, hnL, hx, hb, hml, hown, hts, hK, hD, hA, hN, hZ⟩ := h
  exact fun q hq ht hct ls H locs hh hP hS => lv_fcmp hx hb hdg (k q hq ht hct ls H locs hh hP hS)
theorem g_lload_n (h : CxOk Γ l rm nL ω L cc own ws) {n : Fin 4} {i : Nat} {v : Int64} (j : Nat) (hdg : decode cc pc = .ok (.lload_n n, 1))
    (hi : (n : Nat) = i) (hj : lv[j]? = some (i, .long v)) (k : Gq ct Γ ω L em (pc + 1) lv (.long v :: st) x X) : Gq ct Γ ω L em pc lv (st) x X := by
  obtain ⟨p, l', e, R, s, m, args, below, meth, c, Q, A, nL', tgt⟩ := Γ
  obtain ⟨-, -, hnL, hx, hb, hml, hown, hts, hK, hD, hA, hN, hZ⟩ := h
  exact fun q hq ht hct ls H locs hh hP hS => lv_lload_n hx hb hdg hi (lv_at hh j hj) (k q hq ht hct ls H locs hh hP hS)
theorem g_lload (h : CxOk Γ l rm nL ω L cc own ws) {i : Nat} {v : Int64} (j : Nat) (hdg : decode cc pc = .ok (.lload i, 2))
    (hj : lv[j]? = some (i, .long v)) (k : Gq ct Γ ω L em (pc + 2) lv (.long v :: st) x X) : Gq ct Γ ω L em pc lv (st) x X := by
  obtain ⟨p, l', e, R, s, m, args, below, meth, c, Q, A, nL', tgt⟩ := Γ
  obtain ⟨-, -, hnL, hx, hb, hml, hown, hts, hK, hD, hA, hN, hZ⟩ := h
  exact fun q hq ht hct ls H locs hh hP hS => lv_lload hx hb hdg (lv_at hh j hj) (k q hq ht hct ls H locs hh hP hS)
theorem g_lstore_n (h : CxOk Γ l rm nL ω L cc own ws) {n : Fin 4} {i : Nat} (hi : (n : Nat) = i) {v : Int64} {lv' : List (Nat × Value)} (hdg : decode cc pc = .ok (.lstore_n n, 1)) (hn : i + 1 < nL) (ks : List Nat) (hl : lv_pick ((i, Value.long v) :: lv.filter (fun q => !(q.1 == i) && (!(q.1 == i + 1) && !(q.1 + 1 == i && q.2.category == 2)))) ks = lv') (k : Gq ct Γ ω L em (pc + 1) lv' st x X) : Gq ct Γ ω L em pc lv (Value.long v :: st) x X := by
  obtain ⟨p, l', e, R, s, m, args, below, meth, c, Q, A, nL', tgt⟩ := Γ
  obtain ⟨-, -, hnL, hx, hb, hml, hown, hts, hK, hD, hA, hN, hZ⟩ := h
  exact fun q hq ht hct ls H locs hh hP hS => lv_lstore_n hx hb hdg hi hh (hnL.symm ▸ hn) rfl (fun ls' hh' => k q hq ht hct ls' H locs (lv_sub hh' ks hl) hP hS)
theorem g_lstore (h : CxOk Γ l rm nL ω L cc own ws) {i : Nat} {v : Int64} {lv' : List (Nat × Value)} (hdg : decode cc pc = .ok (.lstore i, 2)) (hn : i + 1 < nL) (ks : List Nat) (hl : lv_pick ((i, Value.long v) :: lv.filter (fun q => !(q.1 == i) && (!(q.1 == i + 1) && !(q.1 + 1 == i && q.2.category == 2)))) ks = lv') (k : Gq ct Γ ω L em (pc + 2) lv' st x X) : Gq ct Γ ω L em pc lv (Value.long v :: st) x X := by
  obtain ⟨p, l', e, R, s, m, args, below, meth, c, Q, A, nL', tgt⟩ := Γ
  obtain ⟨-, -, hnL, hx, hb, hml, hown, hts, hK, hD, hA, hN, hZ⟩ := h
  exact fun q hq ht hct ls H locs hh hP hS => lv_lstore hx hb hdg hh (hnL.symm ▸ hn) rfl (fun ls' hh' => k q hq ht hct ls' H locs (lv_sub hh' ks hl) hP hS)
/-- a long is answered: the memory keeps it -/
theorem g_lret {M : Mm} {h0 : Int64} (hR : RetJ Γ ω L cc) (h9 : ∀ q ∈ L.1, q.1 ≠ 99) (hdg : decode cc pc = .ok (.lreturn, 1)) : Gq ct Γ ω L eI pc lv [.long h0] M (some (0, uM M 99 (enc h0))) := by
  intro q hq ht hct ls H locs hh hP hS
  cases hq
  have e2 : (gT Γ).2 = uM M 99 (enc h0) := by rw [ht]
  have e3 : wW ω L (gT Γ).2 = wW ω L M := by
    rw [e2]
    exact wW_off (fun q hq => uM_ne M 99 (enc h0) (h9 q hq))
  have K := hR ct pc ls H locs hct hdg (by rw [e3]; exact hP) hS
  rw [e2, dec_enc] at K
  exact K
end ROWS2
def PostJ (ω : Wd) (L : Ly) (h : Int64) (M : Mm) (sz : Nat) : Array Value → State → Outcome → State → Prop := va_Ql (fun (q : Int64) (_ : Unit) => q = h) (fun _ t => va_P ω.1 vwCl (wW ω L M) t.heap) (aW ω L sz)
def MJ (l : Launch) (y : MethodName) (ws : List Cond) (rm : Room) (ω : Wd) (L : Ly) (av : List Value) (M : Mm) (M' : Mm) : Prop := ∀ sz : Nat, Met l y ws rm (PreW ω L av M sz) (PostJ ω L (dec M') M' sz) rm.cells rm.slots (aW ω L sz)
set_option maxHeartbeats 4000000 in
theorem met_j {l : Launch} {y : MethodName} {ws ws' : List Cond} {rm : Room} {cc : ByteArray} {maxL : Nat} {ω : Wd} {L : Ly} {av : List Value} {M M' : Mm} {r : Int32} (hy : plainName y.cls = true) (hw : ws = Cond.code y cc maxL (some .long) :: ws') (hav : (lg_sl av).length ≤ maxL) (hN : L.1.Nodup)
    (body : ∀ Γ : Cx, CxOk Γ l rm maxL ω L cc y.cls ws → RetJ Γ ω L cc → gT Γ = (r, M') → Vr 0 Γ ω L 0 (lv_args 0 av) [] M) : MJ l y ws rm ω L av M M' := by
  intro sz
  refine Met.ofW (cc := cc) (maxL := maxL) (ret := some .long) hy hw ?_
  intro p e s m args below meth c s₁ B hml hv
  obtain ⟨rfl, hsz, hP, hK, hD, hZ⟩ := hv
  subst hsz
  have hts := atoms_spec (ws := ws) B.pre
  have hlocks := B.notSynchronized
  have hl := lv_entry av (n := maxL) hav
  rw [lg_entry_eq]
  refine body (p, l, e, rm, s, m, av.toArray, below, meth, c, MQ below (PostJ ω L (dec M') M' s.heap.size) av.toArray s rm.cells rm.slots (aW ω L s.heap.size), aW ω L s.heap.size, maxL, (r, M')) ⟨rfl, rfl, rfl, B.exec, B.bytes, hml, findClass_of_methodNamed B.named, hts, hK, ⟨hD, fun q hq => Or.inl ⟨q, hq, rfl⟩⟩, fun q hq => Or.inr hq, hN, hZ⟩ ?_ rfl _ s.heap [] hl hP va_S.rf
  intro ct pc ls H locs hct hdg hP1 hS1
  refine W.widen hct.1 hct.2 ?_
  exact W.lret B.exec B.bytes B.returns (fun t ht hW => ⟨⟨_, (), rfl, rfl, by show va_P _ _ _ t.heap; rw [ht]; exact hP1⟩, hS1.F ht⟩) hS1.2.2 hdg hlocks
section CALLS2
variable {ct : Nat} {σ τ : Type} {Γ : Cx} {l : Launch} {rm : Room} {nL : Nat} {ω : Wd} {L : Ly} {cc : ByteArray} {own : String} {ws : List Cond} {em : σ → Mm} {pc : Nat} {lv : List (Nat × Value)} {st : List Value} {x : σ} {X Y : Option (Int32 × σ)}
set_option maxHeartbeats 4000000 in
/-- a method of an object that answers a float -/
theorem g_callF (h : CxOk Γ l rm nL ω L cc own ws) {C : String} {T : u_T} {N ci k a index maxL : Nat} {fs : List (Option (Nat × Nat))} {y : MethodName} {ws2 ws2' : List Cond} {rm2 : Room} {bytes : ByteArray} {As : List Value} {G : Option (Int32 × τ)} {F : Int32 → τ → Option (Int32 × σ)} (up : τ → σ)
    (hM : ∀ r t, G = some (r, t) → MF l y ws2 rm2 ω L (.ref (th ω k a) :: As) (em x) r (em (up t))) (hc : inL L k a (0, ci, fs)) (hcl : vwCl[ci]? = some (C, T, N)) (n : Nat) (hn : As.length = n) (hT : GoodIn ws (wsV own index C y ws2)) (hw : ws2 = Cond.code y bytes maxL (some .float) :: ws2') (hrc : rm2.cells = 0) (hrs : rm2.slots = 0)
    (hd : y.cls = C ∧ y.cls ≠ "java/lang/invoke/MethodHandle" ∧ y.cls ≠ "java/lang/invoke/VarHandle" ∧ (parseMethodDescriptor y.desc).map (fun d => d.parameters.length) = some n) (hRm : rm2.frames + 1 ≤ rm.frames ∧ 8 + (maxL + 11) + rm2.locals ≤ rm.locals) {st0 : List Value} (hst : st0 = As.reverse ++ .ref (th ω k a) :: st) (hsum : (st.map fun v => v.category).sum ≤ 8) (hdg : decode cc pc = .ok (.invokevirtual index, 3))
    (kk : ∀ r t, Gq ct Γ ω L em (pc + 3) lv (.float r.toUInt32 :: st) (up t) (F r t)) : Gq ct Γ ω L em pc lv st0 x (bnd G F) := by
  intro q hq ht hct
  obtain ⟨r0, t0, hG, hF⟩ := bnd_some hq
  have hM0 := hM r0 t0 hG
  have kk0 := kk r0 t0 q hF ht hct
  obtain ⟨p, l', e, R, s, m, args, below, meth, c, Q, A, nL', tgt⟩ := Γ
  obtain ⟨hll, hR, hnL, hx, hb, hml, hown, hts, hK, hD, hA, hN, hZ⟩ := h
  subst hll; subst hR; subst hnL
  intro ls H locs hh hP hS
  obtain ⟨p0, hp0, hp⟩ := wW_get (ω := ω) (M := em x) hc
  refine va_callf (va_runV (As := As) (rest := st) ⟨hx, hb, hml, hown, hts⟩ (hM0 H.size) (cwV n hts hT hw rfl rfl hd hRm) ⟨PreW_blind, va_recv hK hP hcl hp, fun U hU hW => ⟨rfl, by rw [hU], by rw [hU]; exact hP, va_K.moved hW.alike hK, hD.1, va_Nw.warmM hW hZ⟩⟩ rfl hn hh.1 hst (lv_room hsum) hdg ⟨by rw [hrc]; exact hct.1, by rw [hrs]; exact hct.2⟩) hS (fun q _ h => aW_S hD.2 hA hS q h) (aW_S hD.2 hA hS) (fun r u t H1 locs1 ht1 hvm hw hB hz1 hk1 hS1 => ?_)
  subst hw
  rw [ht1] at hB
  rw [hrc, hrs]
  exact kk0 ls H1 locs1 hh hB hS1
set_option maxHeartbeats 4000000 in
/-- a static method over the world that answers an int, and makes cA cells of 3 -/
theorem g_callS (h : CxOk Γ l rm nL ω L cc own ws) (cA : Nat) {index maxL : Nat} {ty : FieldType} {y : MethodName} {ws2 ws2' : List Cond} {rm2 : Room} {bytes : ByteArray} {As : List Value} {G : Option (Int32 × τ)} {F : Int32 → τ → Option (Int32 × σ)} (up : τ → σ) (hcx : CtOk Γ (ct + cA))
    (hM : ∀ r t, G = some (r, t) → MI l y ws2 rm2 ω L As (em x) r (em (up t))) (n : Nat) (hn : As.length = n) (hT : GoodIn ws (va_wsS own index y ws2)) (hw : ws2 = Cond.code y bytes maxL (some ty) :: ws2') (hrc : rm2.cells = cA) (hrs : rm2.slots = 3 * cA)
    (hd : y.cls ≠ "java/lang/invoke/MethodHandle" ∧ y.cls ≠ "java/lang/invoke/VarHandle" ∧ (parseMethodDescriptor y.desc).map (fun d => d.parameters.length) = some n) (hRm : rm2.frames + 1 ≤ rm.frames ∧ 8 + (maxL + 11) + rm2.locals ≤ rm.locals) {st0 : List Value} (hst : st0 = As.reverse ++ st) (hsum : (st.map fun v => v.category).sum ≤ 8) (hdg : decode cc pc = .ok (.invokestatic index, 3))
    (kk : ∀ r t, Gq (ct + cA) Γ ω L em (pc + 3) lv (.int r :: st) (up t) (F r t)) : Gq ct Γ ω L em pc lv st0 x (bnd G F) := by
  intro q hq ht hct
  obtain ⟨r0, t0, hG, hF⟩ := bnd_some hq
  have hM0 := hM r0 t0 hG
  have kk0 := kk r0 t0 q hF ht hcx
  obtain ⟨p, l', e, R, s, m, args, below, meth, c, Q, A, nL', tgt⟩ := Γ
  obtain ⟨hll, hR, hnL, hx, hb, hml, hown, hts, hK, hD, hA, hN, hZ⟩ := h
  subst hll; subst hR; subst hnL
  intro ls H locs hh hP hS
  have hcx1 : 3 * ct + 3 * cA ≤ R.slots := by rw [← Nat.mul_add]; exact hcx.2
  refine va_calli (va_runS (As := As) (rest := st) ⟨hx, hb, hml, hown, hts⟩ (hM0 H.size) (va_cwS n hts hT hw rfl rfl hd hRm) ⟨PreW_blind, fun U hU hW => ⟨rfl, by rw [hU], by rw [hU]; exact hP, va_K.moved hW.alike hK, hD.1, va_Nw.warmM hW hZ⟩⟩ rfl hn hh.1 hst (lv_room hsum) hdg ⟨by rw [hrc]; exact hcx.1, by rw [hrs]; exact hcx1⟩) hS (fun q _ h => aW_S hD.2 hA hS q h) (aW_S hD.2 hA hS) (fun r u t H1 locs1 ht1 hvm hw hB hz1 hk1 hS1 => ?_)
  subst hw
  rw [ht1] at hB
  have kk1 := kk0 ls H1 locs1 hh hB hS1
  rw [hrc, hrs, ← Nat.mul_add]
  exact kk1
set_option maxHeartbeats 4000000 in
/-- a static method over the world that answers a long -/
theorem g_callJ (h : CxOk Γ l rm nL ω L cc own ws) {index maxL : Nat} {y : MethodName} {ws2 ws2' : List Cond} {rm2 : Room} {bytes : ByteArray} {As : List Value} {x : Mm} {G : Option (Int32 × Mm)} {F : Int64 → Mm → Option (Int32 × Mm)}
    (hM : ∀ r t, G = some (r, t) → MJ l y ws2 rm2 ω L As x t) (n : Nat) (hn : As.length = n) (hT : GoodIn ws (va_wsS own index y ws2)) (hw : ws2 = Cond.code y bytes maxL (some .long) :: ws2') (hrc : rm2.cells = 0) (hrs : rm2.slots = 0)
    (hd : y.cls ≠ "java/lang/invoke/MethodHandle" ∧ y.cls ≠ "java/lang/invoke/VarHandle" ∧ (parseMethodDescriptor y.desc).map (fun d => d.parameters.length) = some n) (hRm : rm2.frames + 1 ≤ rm.frames ∧ 8 + (maxL + 11) + rm2.locals ≤ rm.locals) {st0 : List Value} (hst : st0 = As.reverse ++ st) (hsum : (st.map fun v => v.category).sum ≤ 8) (hdg : decode cc pc = .ok (.invokestatic index, 3))
    (kk : ∀ r t, Gq ct Γ ω L eI (pc + 3) lv (.long r :: st) t (F r t)) : Gq ct Γ ω L eI pc lv st0 x (bnd G (fun _ t => nm (dec t) (fun r => F r t))) := by
  intro q hq ht hct
  obtain ⟨r0, t0, hG, hF⟩ := bnd_some hq
  have hM0 := hM r0 t0 hG
  have kk0 := kk (dec t0) t0 q hF ht hct
  obtain ⟨p, l', e, R, s, m, args, below, meth, c, Q, A, nL', tgt⟩ := Γ
  obtain ⟨hll, hR, hnL, hx, hb, hml, hown, hts, hK, hD, hA, hN, hZ⟩ := h
  subst hll; subst hR; subst hnL
  intro ls H locs hh hP hS
  refine va_calll (va_runS (As := As) (rest := st) ⟨hx, hb, hml, hown, hts⟩ (hM0 H.size) (va_cwS n hts hT hw rfl rfl hd hRm) ⟨PreW_blind, fun U hU hW => ⟨rfl, by rw [hU], by rw [hU]; exact hP, va_K.moved hW.alike hK, hD.1, va_Nw.warmM hW hZ⟩⟩ rfl hn hh.1 hst (lv_room hsum) hdg ⟨by rw [hrc]; exact hct.1, by rw [hrs]; exact hct.2⟩) hS (fun q _ h => aW_S hD.2 hA hS q h) (aW_S hD.2 hA hS) (fun r u t H1 locs1 ht1 hvm hw hB hz1 hk1 hS1 => ?_)
  subst hw
  rw [ht1] at hB
  rw [hrc, hrs]
  exact kk0 ls H1 locs1 hh hB hS1
end CALLS2
/-! THE ROW OF COUNTS of the law's 'conkers': cell (13, 1) beside the game -/
def shH : Nat → Nat → Sh := fun k a => if k = 13 then (1, 3, []) else shC k a
def LH : Ly := (idC ++ [(13, 1)], shH)
theorem LH_nd : LH.1.Nodup := by decide +kernel
theorem LC_n9 : ∀ q ∈ LC.1, q.1 ≠ 99 := by decide +kernel
theorem LC_n13 : ∀ q ∈ LC.1, q.1 ≠ 13 := by decide +kernel
theorem LC_r13 : ∀ q ∈ LC.1, ∀ r, some r ∈ (shC q.1 q.2).2.2 → r.1 ≠ 13 := by
  have e : (LC.1.all fun q => (shC q.1 q.2).2.2.all fun r => match r with
    | some r => decide (r.1 ≠ 13)
    | none => true) = true := by decide +kernel
  intro q hq r hr
  have e1 := List.all_eq_true.mp (List.all_eq_true.mp e q hq) _ hr
  simpa using e1
theorem iH_0_0 : inL LH 0 0 (shC 0 0) := ⟨by decide +kernel, rfl⟩
theorem iH_13_1 : inL LH 13 1 (1, 3, []) := ⟨by decide +kernel, rfl⟩
theorem wH_app (ω : Wd) (M : Mm) : wW ω LH M = wW ω LC M ++ [(th ω 13 1, .inl (ω.2.1 0, 3, .inl (M 13 1)))] := by
  have e1 : LC.1.map (fun q => (th ω q.1 q.2, cE ω (LH.2 q.1 q.2) (M q.1 q.2))) = wW ω LC M := by
    unfold wW
    apply List.map_congr_left
    intro q hq
    have hk := LC_n13 q hq
    have e2 : LH.2 q.1 q.2 = LC.2 q.1 q.2 := by
      show shH q.1 q.2 = shC q.1 q.2
      unfold shH
      rw [if_neg hk]
    rw [e2]
  have e3 : wW ω LH M = LC.1.map (fun q => (th ω q.1 q.2, cE ω (LH.2 q.1 q.2) (M q.1 q.2))) ++ [(th ω 13 1, cE ω (LH.2 13 1) (M 13 1))] := by
    show (idC ++ [(13, 1)]).map _ = _
    rw [List.map_append]
    rfl
  rw [e3, e1]
  rfl
theorem cE_cong {ω ω' : Wd} (h1 : ω'.2.1 = ω.2.1) (h2 : ∀ k, th ω' k 0 = th ω k 0) {sh : Sh} (h3 : ∀ r, some r ∈ sh.2.2 → th ω' r.1 r.2 = th ω r.1 r.2) (f : Nat → Int32) : cE ω' sh f = cE ω sh f := by
  unfold cE
  rw [h1]
  have e1 : fV ω' f sh.2.2 = fV ω f sh.2.2 := by
    unfold fV
    apply List.map_congr_left
    intro j hj
    have hj1 := List.mem_range.mp hj
    cases hg : sh.2.2.getD j none with
    | none => rfl
    | some r =>
      have hm : some r ∈ sh.2.2 := by
        rw [List.getD_eq_getElem?_getD, List.getElem?_eq_getElem hj1] at hg
        simp only [Option.getD_some] at hg
        rw [← hg]
        exact List.getElem_mem hj1
      show Value.ref (th ω' r.1 r.2) = Value.ref (th ω r.1 r.2)
      rw [h3 r hm]
  have e2 : (fun j => some (th ω' (f j).toNatClampNeg 0)) = (fun j => some (th ω (f j).toNatClampNeg 0)) := by
    funext j
    rw [h2]
  rw [e1, e2]
theorem wC_cong {ω ω' : Wd} (h1 : ω'.2.1 = ω.2.1) (h2 : ∀ k a, ¬ (k = 13 ∧ a = 1) → th ω' k a = th ω k a) (M : Mm) : wW ω' LC M = wW ω LC M := by
  unfold wW
  apply List.map_congr_left
  intro q hq
  have hk := LC_n13 q hq
  have e1 : th ω' q.1 q.2 = th ω q.1 q.2 := h2 _ _ (fun e => hk e.1)
  have e2 : cE ω' (LC.2 q.1 q.2) (M q.1 q.2) = cE ω (LC.2 q.1 q.2) (M q.1 q.2) := cE_cong h1 (fun k => h2 k 0 (fun e => absurd e.2 (by decide))) (fun r hr => h2 _ _ (fun e => LC_r13 q hq r hr e.1)) _
  rw [e1, e2]
theorem apart_of {ω : Wd} {L : Ly} {M : Mm} {A : Nat → Prop} (hD : va_D A (wW ω L M)) : Apart ω L ∧ ∀ q ∈ L.1, A (th ω q.1 q.2) := by
  refine ⟨fun i j p q hi hj he => ?_, fun q hq => ?_⟩
  · exact hD.1 i j _ _ (by rw [wW_at, hi]; rfl) (by rw [wW_at, hj]; rfl) he
  · obtain ⟨k, hk⟩ := List.getElem?_of_mem hq
    exact hD.2 k _ (by rw [wW_at, hk]; rfl)
theorem LH_at {i : Nat} {p : Nat × Nat} (h : LC.1[i]? = some p) : LH.1[i]? = some p := by
  have h' : idC[i]? = some p := h
  show (idC ++ [(13, 1)])[i]? = some p
  rw [List.getElem?_append_left (List.getElem?_eq_some_iff.mp h').1]
  exact h'
theorem apartC {ω : Wd} (h : Apart ω LH) : Apart ω LC := fun i j p q hi hj he => h i j p q (LH_at hi) (LH_at hj) he
theorem apart13 {ω : Wd} (h : Apart ω LH) : ∀ q ∈ LC.1, th ω 13 1 ≠ th ω q.1 q.2 := by
  intro q hq e
  obtain ⟨k, hk⟩ := List.getElem?_of_mem hq
  have hl := (List.getElem?_eq_some_iff.mp hk).1
  have h1 : LH.1[LC.1.length]? = some (13, 1) := by
    show (idC ++ [(13, 1)])[idC.length]? = _
    rw [List.getElem?_append_right (Nat.le_refl _), Nat.sub_self]
    rfl
  have e2 := h _ _ _ _ h1 (LH_at hk) e
  omega
theorem ka_one {D : va_G} {tys : List (ClassId × FieldType)} {s : State} {c1 c2 : ClassId} (hK : va_K D vwCl tys s) (i j : Nat) (h1 : tys[i]? = some (c1, .int)) (h2 : tys[j]? = some (c2, .int)) : c1 = c2 := by
  have a := (hK.2 i _ h1).2
  have b := (hK.2 j _ h2).2
  exact Option.some.inj (a.symm.trans b)
theorem retI_H {Γ : Cx} {ω ω' : Wd} {cc : ByteArray} {ty : FieldType} (h0 : ω'.1 = ω.1) (h1 : ω'.2.1 = ω.2.1) (h2 : ∀ k a, ¬ (k = 13 ∧ a = 1) → th ω' k a = th ω k a) (hR : RetI Γ ω LC cc ty) : RetI Γ ω' LH cc ty := by
  intro ct pc ls H locs hct hdg hn hP hS
  refine hR ct pc ls H locs hct hdg hn ?_ hS
  rw [wH_app, wC_cong h1 h2, h0] at hP
  exact fun k q hk => hP k q (by rw [List.getElem?_append_left (List.getElem?_eq_some_iff.mp hk).1]; exact hk)
/-- the row of three counts is made -/
theorem wd_13 (ω : Wd) (q : Nat) : ∃ ω' : Wd, ω'.1 = ω.1 ∧ ω'.2.1 = ω.2.1 ∧ (∀ k a, ¬ (k = 13 ∧ a = 1) → th ω' k a = th ω k a) ∧ th ω' 13 1 = q := by
  have e1 : ∀ k a, ¬ (k = 13 ∧ a = 1) → (fun k a => if k = 13 ∧ a = 1 then q else ω.2.2 k a : Nat → Nat → Nat) k a = th ω k a := fun k a hne => if_neg hne
  have e2 : (fun k a => if k = 13 ∧ a = 1 then q else ω.2.2 k a : Nat → Nat → Nat) 13 1 = q := if_pos ⟨rfl, rfl⟩
  exact ⟨(ω.1, ω.2.1, fun k a => if k = 13 ∧ a = 1 then q else ω.2.2 k a), rfl, rfl, e1, e2⟩
set_option maxHeartbeats 4000000 in
theorem g_newH {ct : Nat} {Γ : Cx} {l : Launch} {rm : Room} {nL : Nat} {ω : Wd} {cc : ByteArray} {own : String} {ws : List Cond} {pc : Nat} {lv : List (Nat × Value)} {st : List Value} {M : Mm} (h : CxOk Γ l rm nL ω LC cc own ws) (harr : Cond.arrayClass .int ∈ ws) (hdg : decode cc pc = .ok (.newarray .int, 2)) (hct : CtOk Γ (ct + 1))
    (kk : ∀ ω' : Wd, CxOk Γ l rm nL ω' LH cc own ws → (∀ ty, RetI Γ ω LC cc ty → RetI Γ ω' LH cc ty) → th ω' 0 0 = th ω 0 0 → Vr (ct + 1) Γ ω' LH (pc + 2) lv (.ref (th ω' 13 1) :: st) (uM M 13 (fun _ _ => 0))) : Vr ct Γ ω LC pc lv (.int 3 :: st) M := by
  obtain ⟨p, l', e, R, s, m, args, below, meth, c, Q, A, nL', tgt⟩ := Γ
  have h' := h
  obtain ⟨h1, h2, h3, hx, hb, hml, hown, hts, hK, hD, hA, hN, hZ⟩ := h'
  intro ls H locs hh hP hS
  have hcs : 3 * ct + 3 ≤ R.slots := by have := hct.2; omega
  refine va_newa (atype := .int) (ty := .int) (a0 := (3, .inl (fun _ => 0))) (N' := 3) hx hb (hts (.arrayClass .int) harr) rfl hK hP (wD hD M) hS hA (fun _ => rfl) (by decide) (by decide) (by decide) hct.1 hcs hdg (fun q k5 H1 hK1 hP1 hD1 hS1 => ?_)
  have ek : k5 = ω.2.1 0 := ka_one hK1 3 0 rfl rfl
  subst ek
  obtain ⟨ω', w1, w2, e2, w4⟩ := wd_13 ω q
  have eW : wW ω' LH (uM M 13 (fun _ _ => 0)) = wW ω LC M ++ [(q, .inl (ω.2.1 0, 3, .inl (fun _ => 0)))] := by
    rw [wH_app, wC_cong w2 e2, wW_off (M := M) (fun z hz => uM_ne _ _ _ (LC_n13 z hz)), uM_same, w2, w4]
  have hP2 := hP1
  have hD2 := hD1
  rw [← eW] at hP2 hD2
  rw [← w1] at hP2
  have eS : 3 * (ct + 1) = 3 * ct + 3 := by omega
  have hK' : va_K ω'.1 vwCl (tyW ω') s := by
    show va_K ω'.1 vwCl [(ω'.2.1 0, .int), (ω'.2.1 1, .char), (ω'.2.1 2, .object RX4)] s
    rw [w1, w2]
    exact hK
  have K := kk ω' ⟨h1, h2, h3, hx, hb, hml, hown, hts, hK', apart_of hD2, hA, LH_nd, hZ⟩ (fun ty hR => retI_H w1 w2 e2 hR) (e2 0 0 (by decide)) ls H1 locs hh hP2 hS1
  have K' : W p l' e R s m args below meth c H1 locs (ct + 1) (3 * (ct + 1)) Q (F0 m (pc + 2) ls (.ref (th ω' 13 1) :: st)) := K
  rw [eS, w4] at K'
  exact K'
set_option maxHeartbeats 4000000 in
/-- from beside the row of counts: a method of the face that answers an int -/
theorem g_callH {ct : Nat} {Γ : Cx} {l : Launch} {rm : Room} {nL : Nat} {ω : Wd} {cc : ByteArray} {own : String} {ws : List Cond} {pc : Nat} {lv : List (Nat × Value)} {st : List Value} {x : Mm} (h : CxOk Γ l rm nL ω LH cc own ws) {index maxL : Nat} {ty : FieldType} {y : MethodName} {ws2 ws2' : List Cond} {rm2 : Room} {bytes : ByteArray} {As : List Value} {G : Option (Int32 × Mm)} {F : Int32 → Mm → Option (Int32 × Mm)}
    (hM : ∀ r t, G = some (r, t) → MI l y ws2 rm2 ω LC (.ref (th ω 0 0) :: As) x r t) (n : Nat) (hn : As.length = n) (hT : GoodIn ws (wsV own index RX5 y ws2)) (hw : ws2 = Cond.code y bytes maxL (some ty) :: ws2') (hrc : rm2.cells = 0) (hrs : rm2.slots = 0)
    (hd : y.cls = RX5 ∧ y.cls ≠ "java/lang/invoke/MethodHandle" ∧ y.cls ≠ "java/lang/invoke/VarHandle" ∧ (parseMethodDescriptor y.desc).map (fun d => d.parameters.length) = some n) (hRm : rm2.frames + 1 ≤ rm.frames ∧ 8 + (maxL + 11) + rm2.locals ≤ rm.locals) {st0 : List Value} (hst : st0 = As.reverse ++ .ref (th ω 0 0) :: st) (hsum : (st.map fun v => v.category).sum ≤ 8) (hdg : decode cc pc = .ok (.invokevirtual index, 3))
    (kk : ∀ r t, Gq ct Γ ω LH eI (pc + 3) lv (.int r :: st) (uM t 13 (x 13)) (F r t)) : Gq ct Γ ω LH eI pc lv st0 x (bnd G F) := by
  intro q hq ht hct
  obtain ⟨r0, t0, hG, hF⟩ := bnd_some hq
  have hM0 := hM r0 t0 hG
  have kk0 := kk r0 t0 q hF ht hct
  obtain ⟨p, l', e, R, s, m, args, below, meth, c, Q, A, nL', tgt⟩ := Γ
  obtain ⟨hll, hR, hnL, hx, hb, hml, hown, hts, hK, hD, hA, hN, hZ⟩ := h
  subst hll; subst hR; subst hnL
  intro ls H locs hh hP hS
  have hP0 : va_P ω.1 vwCl (wW ω LH x) H := hP
  rw [wH_app] at hP0
  have hPC : va_P ω.1 vwCl (wW ω LC x) H := fun k z hk => hP0 k z (by rw [List.getElem?_append_left (List.getElem?_eq_some_iff.mp hk).1]; exact hk)
  have hPR : va_P ω.1 vwCl [(th ω 13 1, .inl (ω.2.1 0, 3, .inl (x 13 1)))] H := fun k z hk => hP0 ((wW ω LC x).length + k) z (by rw [List.getElem?_append_right (Nat.le_add_right _ _), Nat.add_sub_cancel_left]; exact hk)
  obtain ⟨p0, hp0, hp⟩ := wW_get (ω := ω) (M := x) iC_0_0
  have hAC : ∀ q ∈ LC.1, A (th ω q.1 q.2) := fun q hq => hD.2 q (List.mem_append_left _ hq)
  refine va_calli (va_runV (As := As) (rest := st) ⟨hx, hb, hml, hown, hts⟩ (hM0 H.size) (cwV n hts hT hw rfl rfl hd hRm) ⟨PreW_blind, va_recv hK hPC rfl hp, fun U hU hW => ⟨rfl, by rw [hU], by rw [hU]; exact hPC, va_K.moved hW.alike hK, apartC hD.1, va_Nw.warmM hW hZ⟩⟩ rfl hn hh.1 hst (lv_room hsum) hdg ⟨by rw [hrc]; exact hct.1, by rw [hrs]; exact hct.2⟩) hS (fun q _ h => aW_S hAC hA hS q h) (aW_S hAC hA hS) (fun r u t H1 locs1 ht1 hvm hw hB hz1 hk1 hS1 => ?_)
  subst hw
  rw [ht1] at hB
  rw [hrc, hrs]
  refine kk0 ls H1 locs1 hh ?_ hS1
  show va_P ω.1 vwCl (wW ω LH (uM t0 13 (x 13))) H1
  rw [wH_app, wW_off (M := t0) (fun z hz => uM_ne _ _ _ (LC_n13 z hz)), uM_same]
  refine va_P.app hB (hPR.kept (fun k z hz => ?_))
  have hlt := (hPR k z hz).lt
  have ez : z.1 = th ω 13 1 := by
    match k, hz with
    | 0, hz => cases hz; rfl
  refine hk1 z.1 hlt (fun hq => ?_)
  rcases hq with ⟨q, hq, e2⟩ | hq
  · exact apart13 hD.1 q hq (ez.symm.trans e2)
  · omega
theorem ctRm {Γ : Cx} {l : Launch} {rm : Room} {nL : Nat} {ω : Wd} {L : Ly} {cc : ByteArray} {own : String} {ws : List Cond} (h : CxOk Γ l rm nL ω L cc own ws) {A : Nat} (h1 : 0 + A ≤ rm.cells) (h2 : 3 * (0 + A) ≤ rm.slots) : CtOk Γ (0 + A) := by
  have e := h.2.1
  exact ⟨by rw [e]; exact h1, by rw [e]; exact h2⟩
/-! THE SCRIPT -/
def XOk (Γ : Cx) (b N : Nat) (xs : Nat → Int32) : Prop := va_X b N xs (gs Γ) (gs Γ).heap ∧ b < (gs Γ).heap.size ∧ ¬ gA Γ b ∧ N < 2 ^ 30
def cellV (N : Nat) (xs : Nat → Int32) (k : Int32) : Int32 := if k.toNatClampNeg < N then xs k.toNatClampNeg else 1063091093 * (k + 1) + 473848443
def PreX (b N : Nat) (xs : Nat → Int32) (k : Int32) (sz : Nat) : Array Value → State → Prop := va_Pc [.ref b, .int k] (fun U => U.heap.size = sz ∧ va_X b N xs U U.heap ∧ b < U.heap.size)
def PostX (N : Nat) (xs : Nat → Int32) (k : Int32) (sz : Nat) : Array Value → State → Outcome → State → Prop := va_Qi (fun (q : Int32) (_ : Unit) => q = cellV N xs k) (fun _ _ => True) (fun q => sz ≤ q)
theorem PreX_blind {b N : Nat} {xs : Nat → Int32} {k : Int32} {sz : Nat} : FrameBlind (PreX b N xs k sz) := fun a U g mk q => by
  obtain ⟨q0, q1, qX, qb⟩ := q
  exact ⟨q0, q1, va_X.moved (u := U) (U := U.calling g mk a) (Vm.Alike.refl U.vm) qX, qb⟩
set_option maxHeartbeats 4000000 in
theorem c_L_cell (l : Launch) {b N : Nat} (xs : Nat → Int32) {k : Int32} (hk : 0 ≤ k) (hN : N < 2 ^ 30) (sz : Nat) : Met l yL_cell wsL_cell (⟨0, 0, 0, 0⟩ : Room) (PreX b N xs k sz) (PostX N xs k sz) 0 0 (fun q => sz ≤ q) := by
  refine Met.ofW (cc := cL_cell) (maxL := 2) (ret := some .int) (by decide +kernel) rfl ?_
  intro p e s m args below meth c s₁ B hml hv
  obtain ⟨rfl, hsz, hX, hbl⟩ := hv
  subst hsz
  have hts := atoms_spec (ws := wsL_cell) B.pre
  have hlocks := B.notSynchronized
  have hx := B.exec
  have hb := B.bytes
  have hown : s.vm.findClass RL = some m.cls := findClass_of_methodNamed B.named
  have hl := lv_entry [.ref b, .int k] (n := 2) (Nat.le_of_ble_eq_true rfl)
  rw [lg_entry_eq]
  generalize (lg_sl ([.ref b, .int k]) ++ List.replicate (2 - (lg_sl ([.ref b, .int k])).length) Slot.unset).toArray = ls at hl ⊢
  have hl : lv_has ls 2 [(0, .ref b), (1, .int k)] := hl
  have hS : va_S (fun q => s.heap.size ≤ q) s.heap s.heap [] := va_S.rf
  have hbA : ¬ (fun q => s.heap.size ≤ q) b := Nat.not_le.mpr hbl
  obtain ⟨j, hj, ej⟩ : ∃ j : Nat, j < 2 ^ 31 ∧ k = Int32.ofNat j := nI_of (fun h => by
    have h1 := Int32.le_iff_toInt_le.mp hk
    have h2 := Int32.lt_iff_toInt_lt.mp h
    omega)
  subst ej
  have ec : (Int32.ofNat j).toNatClampNeg = j := nI_clamp hj
  refine lv_iload_n hx hb dL_cell_0 rfl (lv_at hl 1 rfl) ?_
  refine lv_aload_n hx hb dL_cell_1 rfl (lv_at hl 0 rfl) ?_
  refine va_slen hx hb hX hbl hbA hS dL_cell_2 ?_
  refine lv_icmp_ge hx hb dL_cell_3 (tgt := 12) (by decide) (fun hc => ?_) (fun hc => ?_)
  · have hlt : ¬ j < N := fun h => by
      have h1 := Int32.le_iff_toInt_le.mp hc
      rw [show (Int32.ofNat N).toInt = N from nI_toInt (by omega), show (Int32.ofNat j).toInt = j from nI_toInt hj] at h1
      omega
    refine lv_ldc hx hb hown (hts _ (by decide +kernel : Cond.constant RL 7 (1063091093) ∈ wsL_cell)) dL_cell_12 ?_
    refine lv_iload_n hx hb dL_cell_14 rfl (lv_at hl 1 rfl) ?_
    refine lv_iconst (v := 1) hx hb dL_cell_15 (by decide) ?_
    refine lv_iadd hx hb dL_cell_16 ?_
    refine lv_imul hx hb dL_cell_17 ?_
    refine lv_ldc hx hb hown (hts _ (by decide +kernel : Cond.constant RL 8 (473848443) ∈ wsL_cell)) dL_cell_18 ?_
    refine lv_iadd hx hb dL_cell_20 ?_
    exact W.zret hx hb B.returns (ty := .int) rfl (fun t ht hW => ⟨⟨_, (), rfl, by unfold cellV; rw [ec, if_neg hlt], trivial⟩, hS.F ht⟩) hS.2.2 dL_cell_21 hlocks
  · have hlt : j < N := by
      apply Classical.byContradiction
      intro h
      apply hc
      rw [Int32.le_iff_toInt_le, show (Int32.ofNat N).toInt = N from nI_toInt (by omega), show (Int32.ofNat j).toInt = j from nI_toInt hj]
      omega
    refine lv_aload_n hx hb dL_cell_6 rfl (lv_at hl 0 rfl) ?_
    refine lv_iload_n hx hb dL_cell_7 rfl (lv_at hl 1 rfl) ?_
    refine va_sld hx hb hX hbl hbA hS (nI_in hlt (by omega)) dL_cell_8 ?_
    refine lv_goto hx hb dL_cell_9 (tgt := 21) (by decide) ?_
    exact W.zret hx hb B.returns (ty := .int) rfl (fun t ht hW => ⟨⟨_, (), rfl, by unfold cellV; rw [ec, if_pos hlt], trivial⟩, hS.F ht⟩) hS.2.2 dL_cell_21 hlocks
set_option maxHeartbeats 4000000 in
theorem g_cell {ct : Nat} {σ : Type} {Γ : Cx} {l : Launch} {rm : Room} {nL : Nat} {ω : Wd} {L : Ly} {cc : ByteArray} {ws : List Cond} {em : σ → Mm} {pc : Nat} {lv : List (Nat × Value)} {st : List Value} {x : σ} {X : Option (Int32 × σ)} {b N : Nat} {xs : Nat → Int32} {i : Int32} {index : Nat} (h : CxOk Γ l rm nL ω L cc RL ws) (hX : XOk Γ b N xs) (hT : GoodIn ws (va_wsS RL index yL_cell wsL_cell)) (hRm : 0 + 1 ≤ rm.frames ∧ 8 + (2 + 11) + 0 ≤ rm.locals) (hsum : (st.map fun v => v.category).sum ≤ 8) (hdg : decode cc pc = .ok (.invokestatic index, 3))
    (kk : Gq ct Γ ω L em (pc + 3) lv (.int (cellV N xs i) :: st) x X) : Gq ct Γ ω L em pc lv (.int i :: .ref b :: st) x (gd (decide (0 ≤ i)) X) := by
  refine g_gd (fun hi => ?_)
  have hi := of_decide_eq_true hi
  intro q hq ht hct
  have kk0 := kk q hq ht hct
  obtain ⟨p, l', e, R, s, m, args, below, meth, c, Q, A, nL', tgt⟩ := Γ
  obtain ⟨hll, hR, hnL, hx, hb, hml, hown, hts, hK, hD, hA, hN, hZ⟩ := h
  obtain ⟨hXX, hbl, hbA, hNN⟩ := hX
  subst hll; subst hR; subst hnL
  intro ls H locs hh hP hS
  refine va_calli (va_runS (As := [.ref b, .int i]) (rest := st) ⟨hx, hb, hml, hown, hts⟩ (c_L_cell l' xs hi hNN H.size) (va_cwS 2 hts hT rfl rfl rfl (by decide +kernel) hRm) ⟨PreX_blind, fun U hU hW => ⟨rfl, by rw [hU], by rw [hU]; exact va_X.moved hW.alike (hXX.kept (hS.2.1 b hbl hbA)), by rw [hU]; exact Nat.lt_of_lt_of_le hbl hS.1⟩⟩ rfl rfl hh.1 rfl (lv_room hsum) hdg ⟨hct.1, hct.2⟩) hS (fun q hl h => absurd hl (Nat.not_lt.mpr h)) (fun q h => hA q (Nat.le_trans hS.1 h)) (fun r u t H1 locs1 ht1 hvm hw hB hz1 hk1 hS1 => ?_)
  subst hw
  exact kk0 ls H1 locs1 hh (hP.kept (fun k q hk => hk1 q.1 (hP k q hk).lt (fun h => absurd (hP k q hk).lt (Nat.not_lt.mpr h)))) hS1
end
